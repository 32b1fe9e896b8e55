/-! A row of references: what lies beyond its length does not matter -/
theorem K_row {G : iG} {d kc ks : Nat} {Y : iM} {pc : Nat} {ls : iL} {st : List Value} {h : iH} {Q : Option Value → iH → Prop} {a n c9 : Nat} {f f' : Nat → Option Nat} (ha : h.1 a = some (.inl (c9, n, .inr (.inr (.inr (.inr f)))))) (hf : ∀ i, i < n → f i = f' i) (k : K G d kc ks Y pc ls st (iSet h a (.inl (c9, n, .inr (.inr (.inr (.inr f')))))) Q) : K G d kc ks Y pc ls st h Q := by
  intro p e R s m args below meth c H locs z cells slots X hf1 hlo hc1 hc2 hL hH hS
  refine k p e R s m args below meth c H locs z cells slots X hf1 hlo hc1 hc2 hL (hH.put ha ?_ rfl (fun _ _ => rfl)) hS
  have h1 : H[a]? = some (vp_cell c9 (n, .inr (.inr (.inr (.inr f))))) := hH.at ha
  show H[a]? = some (vp_cell c9 (n, .inr (.inr (.inr (.inr f')))))
  rw [h1, vp_cell_q, vp_cell_q]
  unfold arrV
  have e1 : (Array.ofFn (n := n) fun j => va_rf (f j.val)) = Array.ofFn (n := n) fun j => va_rf (f' j.val) := by
    congr 1
    funext j
    rw [hf j.val j.isLt]
  rw [e1]
