/-- a heap, cells added behind it -/
def apH (h : iH) (es : List va_E) : iH := (fun p => if h.2 ≤ p ∧ p < h.2 + es.length then es[p - h.2]? else h.1 p, h.2 + es.length)
section AP
variable {h : iH} {es fs : List va_E} {e x : va_E} {j : Nat}
theorem ap_sz : (apH h es).2 = h.2 + es.length := rfl
theorem ap_at (hj : j < es.length) : (apH h es).1 (h.2 + j) = es[j]? := by
  unfold apH
  dsimp only
  rw [if_pos (by omega), show h.2 + j - h.2 = j by omega]
theorem ap_0 : (apH h (x :: es)).1 h.2 = some x := by
  have := ap_at (h := h) (es := x :: es) (j := 0) (by simp)
  simpa using this
theorem ap_lo {p : Nat} (hp : p < h.2) : (apH h es).1 p = h.1 p := by
  unfold apH
  dsimp only
  rw [if_neg (by omega)]
theorem ap_1 : iNew h e = apH h [e] := by
  unfold iNew apH
  refine Prod.ext (funext fun p => ?_) rfl
  dsimp only [List.length_singleton]
  by_cases z : p = h.2
  · subst z; simp
  · rw [if_neg z, if_neg (by omega)]
theorem ap_app : apH (apH h es) fs = apH h (es ++ fs) := by
  unfold apH
  refine Prod.ext (funext fun p => ?_) (by dsimp only; rw [List.length_append]; omega)
  dsimp only
  rw [List.length_append]
  by_cases z : h.2 + es.length ≤ p ∧ p < h.2 + es.length + fs.length
  · rw [if_pos z, if_pos (by omega), List.getElem?_append_right (by omega)]
    congr 1; omega
  · rw [if_neg z]
    by_cases z2 : h.2 ≤ p ∧ p < h.2 + es.length
    · rw [if_pos z2, if_pos (by omega), List.getElem?_append_left (by omega)]
    · rw [if_neg z2, if_neg (by omega)]
theorem ap_new : iNew (apH h es) e = apH h (es ++ [e]) := by rw [ap_1, ap_app]
theorem ap_set (hj : j < es.length) : iSet (apH h es) (h.2 + j) e = apH h (es.set j e) := by
  unfold iSet apH
  refine Prod.ext (funext fun p => ?_) (by dsimp only; rw [List.length_set])
  dsimp only
  rw [List.length_set]
  by_cases z : p = h.2 + j
  · subst z
    rw [if_pos rfl, if_pos (by omega), show h.2 + j - h.2 = j by omega, List.getElem?_set_self hj]
  · rw [if_neg z]
    by_cases z2 : h.2 ≤ p ∧ p < h.2 + es.length
    · rw [if_pos z2, if_pos z2, List.getElem?_set_ne (by omega)]
    · rw [if_neg z2, if_neg z2]
theorem ap_set0 : iSet (apH h (x :: es)) h.2 e = apH h (e :: es) := ap_set (h := h) (es := x :: es) (j := 0) (by simp)
end AP
