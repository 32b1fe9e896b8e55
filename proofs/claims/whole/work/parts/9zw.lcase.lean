/-! The law: its script, its cases -/
/-- the script lies among the old cells -/
def ScG (G : iG) (sb L : Nat) (xs : Nat → Int32) : Prop := ∀ s : State, G.2.2.2.2 s → va_X sb L xs s s.heap ∧ sb < s.heap.size ∧ ¬ G.2.2.1 sb
theorem cat_le (v : Option Value) : ((v.toList ++ []).map fun w : Value => w.category).sum ≤ 8 := by
  cases v with
  | none => exact Nat.zero_le _
  | some w => cases w <;> exact Nat.le_of_ble_eq_true rfl
section LK
variable {G : iG} {d kc ks : Nat} {Y : iM} {pc t : Nat} {ls : iL} {st : List Value} {h : iH} {Q : Option Value → iH → Prop} {sb L : Nat} {xs : Nat → Int32}
theorem ks_sld {i : Int32} (hi : ino Y pc = some (.iaload, t)) (hs : ScG G sb L xs) (hin : vp_in i L) (k : K G d kc ks Y t ls (.int (xs i.toNatClampNeg) :: st) h Q) : K G d kc ks Y pc ls (.int i :: .ref sb :: st) h Q := by
  intro p e R s m args below meth c H locs z cells slots X hf1 hlo hc1 hc2 hL hH hS
  obtain rfl : t = pc + 1 := ino_n hi rfl
  obtain ⟨h1, h2, h3⟩ := hs s X.2.2.2.2.2.2.2.2.1
  exact va_sld X.1 X.2.1 h1 h2 h3 hS hin (ino_d hi) (k p e R s m args below meth c H locs z cells slots X hf1 hlo hc1 hc2 hL hH hS)
theorem ks_slen (hi : ino Y pc = some (.arraylength, t)) (hs : ScG G sb L xs) (k : K G d kc ks Y t ls (.int (nI L) :: st) h Q) : K G d kc ks Y pc ls (.ref sb :: st) h Q := by
  intro p e R s m args below meth c H locs z cells slots X hf1 hlo hc1 hc2 hL hH hS
  obtain rfl : t = pc + 1 := ino_n hi rfl
  obtain ⟨h1, h2, h3⟩ := hs s X.2.2.2.2.2.2.2.2.1
  exact va_slen X.1 X.2.1 h1 h2 h3 hS (ino_d hi) (k p e R s m args below meth c H locs z cells slots X hf1 hlo hc1 hc2 hL hH hS)
theorem K_wide {kc' ks' : Nat} (h1 : kc ≤ kc') (h2 : ks ≤ ks') (k : K G d kc ks Y pc ls st h Q) : K G d kc' ks' Y pc ls st h Q :=
  fun p e R s m args below meth c H locs z cells slots X hf1 hlo hc1 hc2 hL hH hS => k p e R s m args below meth c H locs z cells slots X hf1 hlo (by omega) (by omega) hL hH hS
end LK
theorem and63 (x : Int32) : ∃ k, k < 64 ∧ x &&& nI 63 = nI k := by
  have h3 : (x.toBitVec &&& 63#32).toNat ≤ 63 := by
    rw [BitVec.toNat_and]
    exact Nat.and_le_right
  refine ⟨(x.toBitVec &&& 63#32).toNat, by omega, Int32.toBitVec_inj.mp ?_⟩
  show x.toBitVec &&& 63#32 = BitVec.ofNat 32 _
  rw [BitVec.ofNat_toNat, BitVec.setWidth_eq]
section LC
variable {G : iG} {d kc ks sb b c o L i : Nat} {xs : Nat → Int32} {x5 x6 : Option Value} {g : iH} {Q : Option Value → iH → Prop}
theorem ks_arg {j p1 p2 p3 p4 p5 p6 : Nat} {n : Int} {st : List Value} (e1 : ino mL_law p1 = some (.aload_n 0, p2)) (e2 : ino mL_law p2 = some (.iload 4, p3)) (e3 : ino mL_law p3 = some (.iconst n, p4)) (e4 : ino mL_law p4 = some (.iadd, p5)) (e5 : ino mL_law p5 = some (.iaload, p6)) (hn : Int32.ofInt n = nI j) (hj : j < 6) (hs : ScG G sb L xs) (hL : L ≤ 3072) (hi : i + 6 ≤ L)
    (k : K G d kc ks mL_law p6 [some (.ref sb), some (.ref b), some (.ref c), some (.ref o), some (.int (nI i)), x5, x6] (.int (xs (i + j)) :: st) g Q) : K G d kc ks mL_law p1 [some (.ref sb), some (.ref b), some (.ref c), some (.ref o), some (.int (nI i)), x5, x6] st g Q := by
  refine ks_aload_n e1 rfl ?_
  refine ks_iload e2 rfl ?_
  refine ks_iconst e3 hn ?_
  refine ks_iadd e4 ?_
  rw [nI_add]
  refine ks_sld e5 hs (vp_in_nI (by omega) (by omega)) ?_
  rw [nI_clamp (by omega)]
  exact k
theorem LC_0 (hs : ScG G sb L xs) (hL : L ≤ 3072) (hi : i + 6 ≤ L) (hp : PairP G (d + 24) mX11_feed mX12_feed b c [.int (xs (i + 1)), .int (xs (i + 2)), .int (xs (i + 3)), .int (xs (i + 4)), .int (xs (i + 5))] g (LI G b c o)) (kn : ∀ g', LI G b c o g' → K G (d + 25) kc ks mL_law 1336 [some (.ref sb), some (.ref b), some (.ref c), some (.ref o), some (.int (nI i)), x5, x6] [] g' Q) : K G (d + 25) kc ks mL_law 220 [some (.ref sb), some (.ref b), some (.ref c), some (.ref o), some (.int (nI i)), x5, x6] [] g Q := by
  obtain ⟨⟨fs, hb⟩, Qx, hx, hp⟩ := hp
  refine ks_aload_n eL_law_220 rfl ?_
  refine ks_arg (j := 1) eL_law_221 eL_law_222 eL_law_224 eL_law_225 eL_law_226 (by decide) (by decide) hs hL hi ?_
  refine ks_arg (j := 2) eL_law_227 eL_law_228 eL_law_230 eL_law_231 eL_law_232 (by decide) (by decide) hs hL hi ?_
  refine ks_arg (j := 3) eL_law_233 eL_law_234 eL_law_236 eL_law_237 eL_law_238 (by decide) (by decide) hs hL hi ?_
  refine ks_arg (j := 4) eL_law_239 eL_law_240 eL_law_242 eL_law_243 eL_law_244 (by decide) (by decide) hs hL hi ?_
  refine ks_arg (j := 5) eL_law_245 eL_law_246 eL_law_248 eL_law_249 eL_law_250 (by decide) (by decide) hs hL hi ?_
  refine ks_callV (As := [.int (xs (i + 1)), .int (xs (i + 2)), .int (xs (i + 3)), .int (xs (i + 4)), .int (xs (i + 5))]) (mc := 0) (ms := 0) (Y' := mX11_feed) eL_law_251 l_RL_19 kX11_feed iX11_feed nX11_feed hb rfl rfl (Nat.zero_le _) hx (Nat.zero_le _) (Nat.zero_le _) ?_
  intro v g1 hq1
  obtain ⟨⟨fs2, hc2⟩, Qm, hm, hp⟩ := hp v g1 hq1
  refine ks_aload_n eL_law_254 rfl ?_
  refine ks_arg (j := 1) eL_law_255 eL_law_256 eL_law_258 eL_law_259 eL_law_260 (by decide) (by decide) hs hL hi ?_
  refine ks_arg (j := 2) eL_law_261 eL_law_262 eL_law_264 eL_law_265 eL_law_266 (by decide) (by decide) hs hL hi ?_
  refine ks_arg (j := 3) eL_law_267 eL_law_268 eL_law_270 eL_law_271 eL_law_272 (by decide) (by decide) hs hL hi ?_
  refine ks_arg (j := 4) eL_law_273 eL_law_274 eL_law_276 eL_law_277 eL_law_278 (by decide) (by decide) hs hL hi ?_
  refine ks_arg (j := 5) eL_law_279 eL_law_280 eL_law_282 eL_law_283 eL_law_284 (by decide) (by decide) hs hL hi ?_
  refine ks_callV (As := [.int (xs (i + 1)), .int (xs (i + 2)), .int (xs (i + 3)), .int (xs (i + 4)), .int (xs (i + 5))]) (mc := 0) (ms := 0) (Y' := mX12_feed) eL_law_285 l_RL_23 kX12_feed iX12_feed nX12_feed hc2 rfl rfl (cat_le v) hm (Nat.zero_le _) (Nat.zero_le _) ?_
  intro v2 g2 hq2
  obtain ⟨x, rfl, rfl, hP⟩ := hp v2 g2 hq2
  exact ks_icmp_eq (x := x) (y := x) (st := []) eL_law_288 (fun _ => kn g2 hP) (fun h => absurd rfl h)
theorem LC_1 (hs : ScG G sb L xs) (hL : L ≤ 3072) (hi : i + 6 ≤ L) (hp : PairP G (d + 24) mX11_end mX12_end b c [.int (xs (i + 1))] g (LI G b c o)) (kn : ∀ g', LI G b c o g' → K G (d + 25) kc ks mL_law 1336 [some (.ref sb), some (.ref b), some (.ref c), some (.ref o), some (.int (nI i)), x5, x6] [] g' Q) : K G (d + 25) kc ks mL_law 293 [some (.ref sb), some (.ref b), some (.ref c), some (.ref o), some (.int (nI i)), x5, x6] [] g Q := by
  obtain ⟨⟨fs, hb⟩, Qx, hx, hp⟩ := hp
  refine ks_aload_n eL_law_293 rfl ?_
  refine ks_arg (j := 1) eL_law_294 eL_law_295 eL_law_297 eL_law_298 eL_law_299 (by decide) (by decide) hs hL hi ?_
  refine ks_callV (As := [.int (xs (i + 1))]) (mc := 0) (ms := 0) (Y' := mX11_end) eL_law_300 l_RL_24 kX11_end iX11_end nX11_end hb rfl rfl (Nat.zero_le _) hx (Nat.zero_le _) (Nat.zero_le _) ?_
  intro v g1 hq1
  obtain ⟨⟨fs2, hc2⟩, Qm, hm, hp⟩ := hp v g1 hq1
  refine ks_aload_n eL_law_303 rfl ?_
  refine ks_arg (j := 1) eL_law_304 eL_law_305 eL_law_307 eL_law_308 eL_law_309 (by decide) (by decide) hs hL hi ?_
  refine ks_callV (As := [.int (xs (i + 1))]) (mc := 0) (ms := 0) (Y' := mX12_end) eL_law_310 l_RL_28 kX12_end iX12_end nX12_end hc2 rfl rfl (cat_le v) hm (Nat.zero_le _) (Nat.zero_le _) ?_
  intro v2 g2 hq2
  obtain ⟨x, rfl, rfl, hP⟩ := hp v2 g2 hq2
  exact ks_icmp_eq (x := x) (y := x) (st := []) eL_law_313 (fun _ => kn g2 hP) (fun h => absurd rfl h)
theorem LC_2 (hs : ScG G sb L xs) (hL : L ≤ 3072) (hi : i + 6 ≤ L) (hp : PairP G (d + 24) mX11_tower mX12_tower b c [] g (LI G b c o)) (kn : ∀ g', LI G b c o g' → K G (d + 25) kc ks mL_law 1336 [some (.ref sb), some (.ref b), some (.ref c), some (.ref o), some (.int (nI i)), x5, x6] [] g' Q) : K G (d + 25) kc ks mL_law 318 [some (.ref sb), some (.ref b), some (.ref c), some (.ref o), some (.int (nI i)), x5, x6] [] g Q := by
  obtain ⟨⟨fs, hb⟩, Qx, hx, hp⟩ := hp
  refine ks_aload_n eL_law_318 rfl ?_
  refine ks_callV (As := []) (mc := 0) (ms := 0) (Y' := mX11_tower) eL_law_319 l_RL_29 kX11_tower iX11_tower nX11_tower hb rfl rfl (Nat.zero_le _) hx (Nat.zero_le _) (Nat.zero_le _) ?_
  intro v g1 hq1
  obtain ⟨⟨fs2, hc2⟩, Qm, hm, hp⟩ := hp v g1 hq1
  refine ks_aload_n eL_law_322 rfl ?_
  refine ks_callV (As := []) (mc := 0) (ms := 0) (Y' := mX12_tower) eL_law_323 l_RL_33 kX12_tower iX12_tower nX12_tower hc2 rfl rfl (cat_le v) hm (Nat.zero_le _) (Nat.zero_le _) ?_
  intro v2 g2 hq2
  obtain ⟨x, rfl, rfl, hP⟩ := hp v2 g2 hq2
  exact ks_icmp_eq (x := x) (y := x) (st := []) eL_law_326 (fun _ => kn g2 hP) (fun h => absurd rfl h)
theorem LC_3 (hs : ScG G sb L xs) (hL : L ≤ 3072) (hi : i + 6 ≤ L) (hp : PairP G (d + 24) mX11_fault mX12_fault b c [] g (LI G b c o)) (kn : ∀ g', LI G b c o g' → K G (d + 25) kc ks mL_law 1336 [some (.ref sb), some (.ref b), some (.ref c), some (.ref o), some (.int (nI i)), x5, x6] [] g' Q) : K G (d + 25) kc ks mL_law 331 [some (.ref sb), some (.ref b), some (.ref c), some (.ref o), some (.int (nI i)), x5, x6] [] g Q := by
  obtain ⟨⟨fs, hb⟩, Qx, hx, hp⟩ := hp
  refine ks_aload_n eL_law_331 rfl ?_
  refine ks_callV (As := []) (mc := 0) (ms := 0) (Y' := mX11_fault) eL_law_332 l_RL_34 kX11_fault iX11_fault nX11_fault hb rfl rfl (Nat.zero_le _) hx (Nat.zero_le _) (Nat.zero_le _) ?_
  intro v g1 hq1
  obtain ⟨⟨fs2, hc2⟩, Qm, hm, hp⟩ := hp v g1 hq1
  refine ks_aload_n eL_law_335 rfl ?_
  refine ks_callV (As := []) (mc := 0) (ms := 0) (Y' := mX12_fault) eL_law_336 l_RL_37 kX12_fault iX12_fault nX12_fault hc2 rfl rfl (cat_le v) hm (Nat.zero_le _) (Nat.zero_le _) ?_
  intro v2 g2 hq2
  obtain ⟨x, rfl, rfl, hP⟩ := hp v2 g2 hq2
  exact ks_icmp_eq (x := x) (y := x) (st := []) eL_law_339 (fun _ => kn g2 hP) (fun h => absurd rfl h)
theorem LC_5 (hs : ScG G sb L xs) (hL : L ≤ 3072) (hi : i + 6 ≤ L) (hp : PairP G (d + 24) mX11_has mX12_has b c [.int (xs (i + 1)), .int (xs (i + 2))] g (LI G b c o)) (kn : ∀ g', LI G b c o g' → K G (d + 25) kc ks mL_law 1336 [some (.ref sb), some (.ref b), some (.ref c), some (.ref o), some (.int (nI i)), x5, x6] [] g' Q) : K G (d + 25) kc ks mL_law 412 [some (.ref sb), some (.ref b), some (.ref c), some (.ref o), some (.int (nI i)), x5, x6] [] g Q := by
  obtain ⟨⟨fs, hb⟩, Qx, hx, hp⟩ := hp
  refine ks_aload_n eL_law_412 rfl ?_
  refine ks_arg (j := 1) eL_law_413 eL_law_414 eL_law_416 eL_law_417 eL_law_418 (by decide) (by decide) hs hL hi ?_
  refine ks_arg (j := 2) eL_law_419 eL_law_420 eL_law_422 eL_law_423 eL_law_424 (by decide) (by decide) hs hL hi ?_
  refine ks_callV (As := [.int (xs (i + 1)), .int (xs (i + 2))]) (mc := 0) (ms := 0) (Y' := mX11_has) eL_law_425 l_RL_47 kX11_has iX11_has nX11_has hb rfl rfl (Nat.zero_le _) hx (Nat.zero_le _) (Nat.zero_le _) ?_
  intro v g1 hq1
  obtain ⟨⟨fs2, hc2⟩, Qm, hm, hp⟩ := hp v g1 hq1
  refine ks_aload_n eL_law_428 rfl ?_
  refine ks_arg (j := 1) eL_law_429 eL_law_430 eL_law_432 eL_law_433 eL_law_434 (by decide) (by decide) hs hL hi ?_
  refine ks_arg (j := 2) eL_law_435 eL_law_436 eL_law_438 eL_law_439 eL_law_440 (by decide) (by decide) hs hL hi ?_
  refine ks_callV (As := [.int (xs (i + 1)), .int (xs (i + 2))]) (mc := 0) (ms := 0) (Y' := mX12_has) eL_law_441 l_RL_50 kX12_has iX12_has nX12_has hc2 rfl rfl (cat_le v) hm (Nat.zero_le _) (Nat.zero_le _) ?_
  intro v2 g2 hq2
  obtain ⟨x, rfl, rfl, hP⟩ := hp v2 g2 hq2
  exact ks_icmp_eq (x := x) (y := x) (st := []) eL_law_444 (fun _ => kn g2 hP) (fun h => absurd rfl h)
theorem LC_6 (hs : ScG G sb L xs) (hL : L ≤ 3072) (hi : i + 6 ≤ L) (hp : PairP G (d + 24) mX11_floor mX12_floor b c [.int (xs (i + 1)), .int (xs (i + 2))] g (LI G b c o)) (kn : ∀ g', LI G b c o g' → K G (d + 25) kc ks mL_law 1336 [some (.ref sb), some (.ref b), some (.ref c), some (.ref o), some (.int (nI i)), x5, x6] [] g' Q) : K G (d + 25) kc ks mL_law 449 [some (.ref sb), some (.ref b), some (.ref c), some (.ref o), some (.int (nI i)), x5, x6] [] g Q := by
  obtain ⟨⟨fs, hb⟩, Qx, hx, hp⟩ := hp
  refine ks_aload_n eL_law_449 rfl ?_
  refine ks_arg (j := 1) eL_law_450 eL_law_451 eL_law_453 eL_law_454 eL_law_455 (by decide) (by decide) hs hL hi ?_
  refine ks_arg (j := 2) eL_law_456 eL_law_457 eL_law_459 eL_law_460 eL_law_461 (by decide) (by decide) hs hL hi ?_
  refine ks_callV (As := [.int (xs (i + 1)), .int (xs (i + 2))]) (mc := 0) (ms := 0) (Y' := mX11_floor) eL_law_462 l_RL_51 kX11_floor iX11_floor nX11_floor hb rfl rfl (Nat.zero_le _) hx (Nat.zero_le _) (Nat.zero_le _) ?_
  intro v g1 hq1
  obtain ⟨⟨fs2, hc2⟩, Qm, hm, hp⟩ := hp v g1 hq1
  refine ks_aload_n eL_law_465 rfl ?_
  refine ks_arg (j := 1) eL_law_466 eL_law_467 eL_law_469 eL_law_470 eL_law_471 (by decide) (by decide) hs hL hi ?_
  refine ks_arg (j := 2) eL_law_472 eL_law_473 eL_law_475 eL_law_476 eL_law_477 (by decide) (by decide) hs hL hi ?_
  refine ks_callV (As := [.int (xs (i + 1)), .int (xs (i + 2))]) (mc := 0) (ms := 0) (Y' := mX12_floor) eL_law_478 l_RL_54 kX12_floor iX12_floor nX12_floor hc2 rfl rfl (cat_le v) hm (Nat.zero_le _) (Nat.zero_le _) ?_
  intro v2 g2 hq2
  obtain ⟨x, rfl, rfl, hP⟩ := hp v2 g2 hq2
  exact ks_icmp_eq (x := x) (y := x) (st := []) eL_law_481 (fun _ => kn g2 hP) (fun h => absurd rfl h)
theorem LC_7 (hs : ScG G sb L xs) (hL : L ≤ 3072) (hi : i + 6 ≤ L) (hp : PairP G (d + 24) mX11_uncle mX12_uncle b c [.int (xs (i + 1)), .int (xs (i + 2))] g (LI G b c o)) (kn : ∀ g', LI G b c o g' → K G (d + 25) kc ks mL_law 1336 [some (.ref sb), some (.ref b), some (.ref c), some (.ref o), some (.int (nI i)), x5, x6] [] g' Q) : K G (d + 25) kc ks mL_law 486 [some (.ref sb), some (.ref b), some (.ref c), some (.ref o), some (.int (nI i)), x5, x6] [] g Q := by
  obtain ⟨⟨fs, hb⟩, Qx, hx, hp⟩ := hp
  refine ks_aload_n eL_law_486 rfl ?_
  refine ks_arg (j := 1) eL_law_487 eL_law_488 eL_law_490 eL_law_491 eL_law_492 (by decide) (by decide) hs hL hi ?_
  refine ks_arg (j := 2) eL_law_493 eL_law_494 eL_law_496 eL_law_497 eL_law_498 (by decide) (by decide) hs hL hi ?_
  refine ks_callV (As := [.int (xs (i + 1)), .int (xs (i + 2))]) (mc := 0) (ms := 0) (Y' := mX11_uncle) eL_law_499 l_RL_55 kX11_uncle iX11_uncle nX11_uncle hb rfl rfl (Nat.zero_le _) hx (Nat.zero_le _) (Nat.zero_le _) ?_
  intro v g1 hq1
  obtain ⟨⟨fs2, hc2⟩, Qm, hm, hp⟩ := hp v g1 hq1
  refine ks_aload_n eL_law_502 rfl ?_
  refine ks_arg (j := 1) eL_law_503 eL_law_504 eL_law_506 eL_law_507 eL_law_508 (by decide) (by decide) hs hL hi ?_
  refine ks_arg (j := 2) eL_law_509 eL_law_510 eL_law_512 eL_law_513 eL_law_514 (by decide) (by decide) hs hL hi ?_
  refine ks_callV (As := [.int (xs (i + 1)), .int (xs (i + 2))]) (mc := 0) (ms := 0) (Y' := mX12_uncle) eL_law_515 l_RL_58 kX12_uncle iX12_uncle nX12_uncle hc2 rfl rfl (cat_le v) hm (Nat.zero_le _) (Nat.zero_le _) ?_
  intro v2 g2 hq2
  obtain ⟨x, rfl, rfl, hP⟩ := hp v2 g2 hq2
  exact ks_icmp_eq (x := x) (y := x) (st := []) eL_law_518 (fun _ => kn g2 hP) (fun h => absurd rfl h)
theorem LC_8 (hs : ScG G sb L xs) (hL : L ≤ 3072) (hi : i + 6 ≤ L) (hp : PairP G (d + 24) mX11_law mX12_law b c [.int (xs (i + 1))] g (LI G b c o)) (kn : ∀ g', LI G b c o g' → K G (d + 25) kc ks mL_law 1336 [some (.ref sb), some (.ref b), some (.ref c), some (.ref o), some (.int (nI i)), x5, x6] [] g' Q) : K G (d + 25) kc ks mL_law 523 [some (.ref sb), some (.ref b), some (.ref c), some (.ref o), some (.int (nI i)), x5, x6] [] g Q := by
  obtain ⟨⟨fs, hb⟩, Qx, hx, hp⟩ := hp
  refine ks_aload_n eL_law_523 rfl ?_
  refine ks_arg (j := 1) eL_law_524 eL_law_525 eL_law_527 eL_law_528 eL_law_529 (by decide) (by decide) hs hL hi ?_
  refine ks_callV (As := [.int (xs (i + 1))]) (mc := 0) (ms := 0) (Y' := mX11_law) eL_law_530 l_RL_59 kX11_law iX11_law nX11_law hb rfl rfl (Nat.zero_le _) hx (Nat.zero_le _) (Nat.zero_le _) ?_
  intro v g1 hq1
  obtain ⟨⟨fs2, hc2⟩, Qm, hm, hp⟩ := hp v g1 hq1
  refine ks_aload_n eL_law_533 rfl ?_
  refine ks_arg (j := 1) eL_law_534 eL_law_535 eL_law_537 eL_law_538 eL_law_539 (by decide) (by decide) hs hL hi ?_
  refine ks_callV (As := [.int (xs (i + 1))]) (mc := 0) (ms := 0) (Y' := mX12_law) eL_law_540 l_RL_63 kX12_law iX12_law nX12_law hc2 rfl rfl (cat_le v) hm (Nat.zero_le _) (Nat.zero_le _) ?_
  intro v2 g2 hq2
  obtain ⟨x, rfl, rfl, hP⟩ := hp v2 g2 hq2
  exact ks_icmp_eq (x := x) (y := x) (st := []) eL_law_543 (fun _ => kn g2 hP) (fun h => absurd rfl h)
theorem LC_9 (hs : ScG G sb L xs) (hL : L ≤ 3072) (hi : i + 6 ≤ L) (hp : PairP G (d + 24) mX11_now mX12_now b c [.int (xs (i + 1))] g (LI G b c o)) (kn : ∀ g', LI G b c o g' → K G (d + 25) kc ks mL_law 1336 [some (.ref sb), some (.ref b), some (.ref c), some (.ref o), some (.int (nI i)), x5, x6] [] g' Q) : K G (d + 25) kc ks mL_law 548 [some (.ref sb), some (.ref b), some (.ref c), some (.ref o), some (.int (nI i)), x5, x6] [] g Q := by
  obtain ⟨⟨fs, hb⟩, Qx, hx, hp⟩ := hp
  refine ks_aload_n eL_law_548 rfl ?_
  refine ks_arg (j := 1) eL_law_549 eL_law_550 eL_law_552 eL_law_553 eL_law_554 (by decide) (by decide) hs hL hi ?_
  refine ks_callV (As := [.int (xs (i + 1))]) (mc := 0) (ms := 0) (Y' := mX11_now) eL_law_555 l_RL_64 kX11_now iX11_now nX11_now hb rfl rfl (Nat.zero_le _) hx (Nat.zero_le _) (Nat.zero_le _) ?_
  intro v g1 hq1
  obtain ⟨⟨fs2, hc2⟩, Qm, hm, hp⟩ := hp v g1 hq1
  refine ks_aload_n eL_law_558 rfl ?_
  refine ks_arg (j := 1) eL_law_559 eL_law_560 eL_law_562 eL_law_563 eL_law_564 (by decide) (by decide) hs hL hi ?_
  refine ks_callV (As := [.int (xs (i + 1))]) (mc := 0) (ms := 0) (Y' := mX12_now) eL_law_565 l_RL_67 kX12_now iX12_now nX12_now hc2 rfl rfl (cat_le v) hm (Nat.zero_le _) (Nat.zero_le _) ?_
  intro v2 g2 hq2
  obtain ⟨x, rfl, rfl, hP⟩ := hp v2 g2 hq2
  exact ks_icmp_eq (x := x) (y := x) (st := []) eL_law_568 (fun _ => kn g2 hP) (fun h => absurd rfl h)
theorem LC_10 (hs : ScG G sb L xs) (hL : L ≤ 3072) (hi : i + 6 ≤ L) (hp : PairP G (d + 24) mX11_send mX12_send b c [.int (xs (i + 1)), .int (xs (i + 2))] g (LI G b c o)) (kn : ∀ g', LI G b c o g' → K G (d + 25) kc ks mL_law 1336 [some (.ref sb), some (.ref b), some (.ref c), some (.ref o), some (.int (nI i)), x5, x6] [] g' Q) : K G (d + 25) kc ks mL_law 573 [some (.ref sb), some (.ref b), some (.ref c), some (.ref o), some (.int (nI i)), x5, x6] [] g Q := by
  obtain ⟨⟨fs, hb⟩, Qx, hx, hp⟩ := hp
  refine ks_aload_n eL_law_573 rfl ?_
  refine ks_arg (j := 1) eL_law_574 eL_law_575 eL_law_577 eL_law_578 eL_law_579 (by decide) (by decide) hs hL hi ?_
  refine ks_arg (j := 2) eL_law_580 eL_law_581 eL_law_583 eL_law_584 eL_law_585 (by decide) (by decide) hs hL hi ?_
  refine ks_callV (As := [.int (xs (i + 1)), .int (xs (i + 2))]) (mc := 0) (ms := 0) (Y' := mX11_send) eL_law_586 l_RL_68 kX11_send iX11_send nX11_send hb rfl rfl (Nat.zero_le _) hx (Nat.zero_le _) (Nat.zero_le _) ?_
  intro v g1 hq1
  obtain ⟨⟨fs2, hc2⟩, Qm, hm, hp⟩ := hp v g1 hq1
  refine ks_aload_n eL_law_589 rfl ?_
  refine ks_arg (j := 1) eL_law_590 eL_law_591 eL_law_593 eL_law_594 eL_law_595 (by decide) (by decide) hs hL hi ?_
  refine ks_arg (j := 2) eL_law_596 eL_law_597 eL_law_599 eL_law_600 eL_law_601 (by decide) (by decide) hs hL hi ?_
  refine ks_callV (As := [.int (xs (i + 1)), .int (xs (i + 2))]) (mc := 0) (ms := 0) (Y' := mX12_send) eL_law_602 l_RL_71 kX12_send iX12_send nX12_send hc2 rfl rfl (cat_le v) hm (Nat.zero_le _) (Nat.zero_le _) ?_
  intro v2 g2 hq2
  obtain ⟨x, rfl, rfl, hP⟩ := hp v2 g2 hq2
  exact ks_icmp_eq (x := x) (y := x) (st := []) eL_law_605 (fun _ => kn g2 hP) (fun h => absurd rfl h)
theorem LC_11 (hs : ScG G sb L xs) (hL : L ≤ 3072) (hi : i + 6 ≤ L) (hp : PairP G (d + 24) mX11_hang mX12_hang b c [.int (xs (i + 1))] g (LI G b c o)) (kn : ∀ g', LI G b c o g' → K G (d + 25) kc ks mL_law 1336 [some (.ref sb), some (.ref b), some (.ref c), some (.ref o), some (.int (nI i)), x5, x6] [] g' Q) : K G (d + 25) kc ks mL_law 610 [some (.ref sb), some (.ref b), some (.ref c), some (.ref o), some (.int (nI i)), x5, x6] [] g Q := by
  obtain ⟨⟨fs, hb⟩, Qx, hx, hp⟩ := hp
  refine ks_aload_n eL_law_610 rfl ?_
  refine ks_arg (j := 1) eL_law_611 eL_law_612 eL_law_614 eL_law_615 eL_law_616 (by decide) (by decide) hs hL hi ?_
  refine ks_callV (As := [.int (xs (i + 1))]) (mc := 0) (ms := 0) (Y' := mX11_hang) eL_law_617 l_RL_72 kX11_hang iX11_hang nX11_hang hb rfl rfl (Nat.zero_le _) hx (Nat.zero_le _) (Nat.zero_le _) ?_
  intro v g1 hq1
  obtain ⟨⟨fs2, hc2⟩, Qm, hm, hp⟩ := hp v g1 hq1
  refine ks_aload_n eL_law_620 rfl ?_
  refine ks_arg (j := 1) eL_law_621 eL_law_622 eL_law_624 eL_law_625 eL_law_626 (by decide) (by decide) hs hL hi ?_
  refine ks_callV (As := [.int (xs (i + 1))]) (mc := 0) (ms := 0) (Y' := mX12_hang) eL_law_627 l_RL_75 kX12_hang iX12_hang nX12_hang hc2 rfl rfl (cat_le v) hm (Nat.zero_le _) (Nat.zero_le _) ?_
  intro v2 g2 hq2
  obtain ⟨x, rfl, rfl, hP⟩ := hp v2 g2 hq2
  exact ks_icmp_eq (x := x) (y := x) (st := []) eL_law_630 (fun _ => kn g2 hP) (fun h => absurd rfl h)
theorem LC_12 (hs : ScG G sb L xs) (hL : L ≤ 3072) (hi : i + 6 ≤ L) (hp : PairP G (d + 24) mX11_take mX12_take b c [.int (xs (i + 1))] g (LI G b c o)) (kn : ∀ g', LI G b c o g' → K G (d + 25) kc ks mL_law 1336 [some (.ref sb), some (.ref b), some (.ref c), some (.ref o), some (.int (nI i)), x5, x6] [] g' Q) : K G (d + 25) kc ks mL_law 635 [some (.ref sb), some (.ref b), some (.ref c), some (.ref o), some (.int (nI i)), x5, x6] [] g Q := by
  obtain ⟨⟨fs, hb⟩, Qx, hx, hp⟩ := hp
  refine ks_aload_n eL_law_635 rfl ?_
  refine ks_arg (j := 1) eL_law_636 eL_law_637 eL_law_639 eL_law_640 eL_law_641 (by decide) (by decide) hs hL hi ?_
  refine ks_callV (As := [.int (xs (i + 1))]) (mc := 0) (ms := 0) (Y' := mX11_take) eL_law_642 l_RL_76 kX11_take iX11_take nX11_take hb rfl rfl (Nat.zero_le _) hx (Nat.zero_le _) (Nat.zero_le _) ?_
  intro v g1 hq1
  obtain ⟨⟨fs2, hc2⟩, Qm, hm, hp⟩ := hp v g1 hq1
  refine ks_aload_n eL_law_645 rfl ?_
  refine ks_arg (j := 1) eL_law_646 eL_law_647 eL_law_649 eL_law_650 eL_law_651 (by decide) (by decide) hs hL hi ?_
  refine ks_callV (As := [.int (xs (i + 1))]) (mc := 0) (ms := 0) (Y' := mX12_take) eL_law_652 l_RL_79 kX12_take iX12_take nX12_take hc2 rfl rfl (cat_le v) hm (Nat.zero_le _) (Nat.zero_le _) ?_
  intro v2 g2 hq2
  obtain ⟨x, rfl, rfl, hP⟩ := hp v2 g2 hq2
  exact ks_icmp_eq (x := x) (y := x) (st := []) eL_law_655 (fun _ => kn g2 hP) (fun h => absurd rfl h)
theorem LC_13 (hs : ScG G sb L xs) (hL : L ≤ 3072) (hi : i + 6 ≤ L) (hp : PairP G (d + 24) mX11_serve mX12_serve b c [.int (xs (i + 1))] g (LI G b c o)) (kn : ∀ g', LI G b c o g' → K G (d + 25) kc ks mL_law 1336 [some (.ref sb), some (.ref b), some (.ref c), some (.ref o), some (.int (nI i)), x5, x6] [] g' Q) : K G (d + 25) kc ks mL_law 660 [some (.ref sb), some (.ref b), some (.ref c), some (.ref o), some (.int (nI i)), x5, x6] [] g Q := by
  obtain ⟨⟨fs, hb⟩, Qx, hx, hp⟩ := hp
  refine ks_aload_n eL_law_660 rfl ?_
  refine ks_arg (j := 1) eL_law_661 eL_law_662 eL_law_664 eL_law_665 eL_law_666 (by decide) (by decide) hs hL hi ?_
  refine ks_callV (As := [.int (xs (i + 1))]) (mc := 0) (ms := 0) (Y' := mX11_serve) eL_law_667 l_RL_80 kX11_serve iX11_serve nX11_serve hb rfl rfl (Nat.zero_le _) hx (Nat.zero_le _) (Nat.zero_le _) ?_
  intro v g1 hq1
  obtain ⟨⟨fs2, hc2⟩, Qm, hm, hp⟩ := hp v g1 hq1
  refine ks_aload_n eL_law_670 rfl ?_
  refine ks_arg (j := 1) eL_law_671 eL_law_672 eL_law_674 eL_law_675 eL_law_676 (by decide) (by decide) hs hL hi ?_
  refine ks_callV (As := [.int (xs (i + 1))]) (mc := 0) (ms := 0) (Y' := mX12_serve) eL_law_677 l_RL_83 kX12_serve iX12_serve nX12_serve hc2 rfl rfl (cat_le v) hm (Nat.zero_le _) (Nat.zero_le _) ?_
  intro v2 g2 hq2
  obtain ⟨x, rfl, rfl, hP⟩ := hp v2 g2 hq2
  exact ks_icmp_eq (x := x) (y := x) (st := []) eL_law_680 (fun _ => kn g2 hP) (fun h => absurd rfl h)
theorem LC_14 (hs : ScG G sb L xs) (hL : L ≤ 3072) (hi : i + 6 ≤ L) (hp : PairP G (d + 24) mX11_back mX12_back b c [.int (xs (i + 1))] g (LI G b c o)) (kn : ∀ g', LI G b c o g' → K G (d + 25) kc ks mL_law 1336 [some (.ref sb), some (.ref b), some (.ref c), some (.ref o), some (.int (nI i)), x5, x6] [] g' Q) : K G (d + 25) kc ks mL_law 685 [some (.ref sb), some (.ref b), some (.ref c), some (.ref o), some (.int (nI i)), x5, x6] [] g Q := by
  obtain ⟨⟨fs, hb⟩, Qx, hx, hp⟩ := hp
  refine ks_aload_n eL_law_685 rfl ?_
  refine ks_arg (j := 1) eL_law_686 eL_law_687 eL_law_689 eL_law_690 eL_law_691 (by decide) (by decide) hs hL hi ?_
  refine ks_callV (As := [.int (xs (i + 1))]) (mc := 0) (ms := 0) (Y' := mX11_back) eL_law_692 l_RL_84 kX11_back iX11_back nX11_back hb rfl rfl (Nat.zero_le _) hx (Nat.zero_le _) (Nat.zero_le _) ?_
  intro v g1 hq1
  obtain ⟨⟨fs2, hc2⟩, Qm, hm, hp⟩ := hp v g1 hq1
  refine ks_aload_n eL_law_695 rfl ?_
  refine ks_arg (j := 1) eL_law_696 eL_law_697 eL_law_699 eL_law_700 eL_law_701 (by decide) (by decide) hs hL hi ?_
  refine ks_callV (As := [.int (xs (i + 1))]) (mc := 0) (ms := 0) (Y' := mX12_back) eL_law_702 l_RL_87 kX12_back iX12_back nX12_back hc2 rfl rfl (cat_le v) hm (Nat.zero_le _) (Nat.zero_le _) ?_
  intro v2 g2 hq2
  obtain ⟨x, rfl, rfl, hP⟩ := hp v2 g2 hq2
  exact ks_icmp_eq (x := x) (y := x) (st := []) eL_law_705 (fun _ => kn g2 hP) (fun h => absurd rfl h)
theorem LC_15 (hs : ScG G sb L xs) (hL : L ≤ 3072) (hi : i + 6 ≤ L) (hp : PairP G (d + 24) mX11_hours mX12_hours b c [.int (xs (i + 1))] g (LI G b c o)) (kn : ∀ g', LI G b c o g' → K G (d + 25) kc ks mL_law 1336 [some (.ref sb), some (.ref b), some (.ref c), some (.ref o), some (.int (nI i)), x5, x6] [] g' Q) : K G (d + 25) kc ks mL_law 710 [some (.ref sb), some (.ref b), some (.ref c), some (.ref o), some (.int (nI i)), x5, x6] [] g Q := by
  obtain ⟨⟨fs, hb⟩, Qx, hx, hp⟩ := hp
  refine ks_aload_n eL_law_710 rfl ?_
  refine ks_arg (j := 1) eL_law_711 eL_law_712 eL_law_714 eL_law_715 eL_law_716 (by decide) (by decide) hs hL hi ?_
  refine ks_callV (As := [.int (xs (i + 1))]) (mc := 0) (ms := 0) (Y' := mX11_hours) eL_law_717 l_RL_88 kX11_hours iX11_hours nX11_hours hb rfl rfl (Nat.zero_le _) hx (Nat.zero_le _) (Nat.zero_le _) ?_
  intro v g1 hq1
  obtain ⟨⟨fs2, hc2⟩, Qm, hm, hp⟩ := hp v g1 hq1
  refine ks_aload_n eL_law_720 rfl ?_
  refine ks_arg (j := 1) eL_law_721 eL_law_722 eL_law_724 eL_law_725 eL_law_726 (by decide) (by decide) hs hL hi ?_
  refine ks_callV (As := [.int (xs (i + 1))]) (mc := 0) (ms := 0) (Y' := mX12_hours) eL_law_727 l_RL_91 kX12_hours iX12_hours nX12_hours hc2 rfl rfl (cat_le v) hm (Nat.zero_le _) (Nat.zero_le _) ?_
  intro v2 g2 hq2
  obtain ⟨x, rfl, rfl, hP⟩ := hp v2 g2 hq2
  exact ks_icmp_eq (x := x) (y := x) (st := []) eL_law_730 (fun _ => kn g2 hP) (fun h => absurd rfl h)
theorem LC_16 (hs : ScG G sb L xs) (hL : L ≤ 3072) (hi : i + 6 ≤ L) (hp : PairP G (d + 24) mX11_undo mX12_undo b c [] g (LI G b c o)) (kn : ∀ g', LI G b c o g' → K G (d + 25) kc ks mL_law 1336 [some (.ref sb), some (.ref b), some (.ref c), some (.ref o), some (.int (nI i)), x5, x6] [] g' Q) : K G (d + 25) kc ks mL_law 735 [some (.ref sb), some (.ref b), some (.ref c), some (.ref o), some (.int (nI i)), x5, x6] [] g Q := by
  obtain ⟨⟨fs, hb⟩, Qx, hx, hp⟩ := hp
  refine ks_aload_n eL_law_735 rfl ?_
  refine ks_callV (As := []) (mc := 0) (ms := 0) (Y' := mX11_undo) eL_law_736 l_RL_92 kX11_undo iX11_undo nX11_undo hb rfl rfl (Nat.zero_le _) hx (Nat.zero_le _) (Nat.zero_le _) ?_
  intro v g1 hq1
  obtain ⟨⟨fs2, hc2⟩, Qm, hm, hp⟩ := hp v g1 hq1
  refine ks_aload_n eL_law_739 rfl ?_
  refine ks_callV (As := []) (mc := 0) (ms := 0) (Y' := mX12_undo) eL_law_740 l_RL_95 kX12_undo iX12_undo nX12_undo hc2 rfl rfl (cat_le v) hm (Nat.zero_le _) (Nat.zero_le _) ?_
  intro v2 g2 hq2
  obtain ⟨x, rfl, rfl, hP⟩ := hp v2 g2 hq2
  exact ks_icmp_eq (x := x) (y := x) (st := []) eL_law_743 (fun _ => kn g2 hP) (fun h => absurd rfl h)
theorem LC_17 (hs : ScG G sb L xs) (hL : L ≤ 3072) (hi : i + 6 ≤ L) (hp : PairP G (d + 24) mX11_when mX12_when b c [.int (xs (i + 1))] g (LI G b c o)) (kn : ∀ g', LI G b c o g' → K G (d + 25) kc ks mL_law 1336 [some (.ref sb), some (.ref b), some (.ref c), some (.ref o), some (.int (nI i)), x5, x6] [] g' Q) : K G (d + 25) kc ks mL_law 748 [some (.ref sb), some (.ref b), some (.ref c), some (.ref o), some (.int (nI i)), x5, x6] [] g Q := by
  obtain ⟨⟨fs, hb⟩, Qx, hx, hp⟩ := hp
  refine ks_aload_n eL_law_748 rfl ?_
  refine ks_arg (j := 1) eL_law_749 eL_law_750 eL_law_752 eL_law_753 eL_law_754 (by decide) (by decide) hs hL hi ?_
  refine ks_callV (As := [.int (xs (i + 1))]) (mc := 0) (ms := 0) (Y' := mX11_when) eL_law_755 l_RL_96 kX11_when iX11_when nX11_when hb rfl rfl (Nat.zero_le _) hx (Nat.zero_le _) (Nat.zero_le _) ?_
  intro v g1 hq1
  obtain ⟨⟨fs2, hc2⟩, Qm, hm, hp⟩ := hp v g1 hq1
  refine ks_aload_n eL_law_758 rfl ?_
  refine ks_arg (j := 1) eL_law_759 eL_law_760 eL_law_762 eL_law_763 eL_law_764 (by decide) (by decide) hs hL hi ?_
  refine ks_callV (As := [.int (xs (i + 1))]) (mc := 0) (ms := 0) (Y' := mX12_when) eL_law_765 l_RL_99 kX12_when iX12_when nX12_when hc2 rfl rfl (cat_le v) hm (Nat.zero_le _) (Nat.zero_le _) ?_
  intro v2 g2 hq2
  obtain ⟨x, rfl, rfl, hP⟩ := hp v2 g2 hq2
  exact ks_icmp_eq (x := x) (y := x) (st := []) eL_law_768 (fun _ => kn g2 hP) (fun h => absurd rfl h)
theorem LC_18 (hs : ScG G sb L xs) (hL : L ≤ 3072) (hi : i + 6 ≤ L) (hp : PairP G (d + 24) mX11_plan mX12_plan b c [.int (xs (i + 1))] g (LI G b c o)) (kn : ∀ g', LI G b c o g' → K G (d + 25) kc ks mL_law 1336 [some (.ref sb), some (.ref b), some (.ref c), some (.ref o), some (.int (nI i)), x5, x6] [] g' Q) : K G (d + 25) kc ks mL_law 773 [some (.ref sb), some (.ref b), some (.ref c), some (.ref o), some (.int (nI i)), x5, x6] [] g Q := by
  obtain ⟨⟨fs, hb⟩, Qx, hx, hp⟩ := hp
  refine ks_aload_n eL_law_773 rfl ?_
  refine ks_arg (j := 1) eL_law_774 eL_law_775 eL_law_777 eL_law_778 eL_law_779 (by decide) (by decide) hs hL hi ?_
  refine ks_callV (As := [.int (xs (i + 1))]) (mc := 0) (ms := 0) (Y' := mX11_plan) eL_law_780 l_RL_100 kX11_plan iX11_plan nX11_plan hb rfl rfl (Nat.zero_le _) hx (Nat.zero_le _) (Nat.zero_le _) ?_
  intro v g1 hq1
  obtain ⟨⟨fs2, hc2⟩, Qm, hm, hp⟩ := hp v g1 hq1
  refine ks_aload_n eL_law_783 rfl ?_
  refine ks_arg (j := 1) eL_law_784 eL_law_785 eL_law_787 eL_law_788 eL_law_789 (by decide) (by decide) hs hL hi ?_
  refine ks_callV (As := [.int (xs (i + 1))]) (mc := 0) (ms := 0) (Y' := mX12_plan) eL_law_790 l_RL_103 kX12_plan iX12_plan nX12_plan hc2 rfl rfl (cat_le v) hm (Nat.zero_le _) (Nat.zero_le _) ?_
  intro v2 g2 hq2
  obtain ⟨x, rfl, rfl, hP⟩ := hp v2 g2 hq2
  exact ks_icmp_eq (x := x) (y := x) (st := []) eL_law_793 (fun _ => kn g2 hP) (fun h => absurd rfl h)
theorem LC_19 (hs : ScG G sb L xs) (hL : L ≤ 3072) (hi : i + 6 ≤ L) (hp : PairP G (d + 24) mX11_planAt mX12_planAt b c [.int (xs (i + 1))] g (LI G b c o)) (kn : ∀ g', LI G b c o g' → K G (d + 25) kc ks mL_law 1336 [some (.ref sb), some (.ref b), some (.ref c), some (.ref o), some (.int (nI i)), x5, x6] [] g' Q) : K G (d + 25) kc ks mL_law 798 [some (.ref sb), some (.ref b), some (.ref c), some (.ref o), some (.int (nI i)), x5, x6] [] g Q := by
  obtain ⟨⟨fs, hb⟩, Qx, hx, hp⟩ := hp
  refine ks_aload_n eL_law_798 rfl ?_
  refine ks_arg (j := 1) eL_law_799 eL_law_800 eL_law_802 eL_law_803 eL_law_804 (by decide) (by decide) hs hL hi ?_
  refine ks_callV (As := [.int (xs (i + 1))]) (mc := 0) (ms := 0) (Y' := mX11_planAt) eL_law_805 l_RL_104 kX11_planAt iX11_planAt nX11_planAt hb rfl rfl (Nat.zero_le _) hx (Nat.zero_le _) (Nat.zero_le _) ?_
  intro v g1 hq1
  obtain ⟨⟨fs2, hc2⟩, Qm, hm, hp⟩ := hp v g1 hq1
  refine ks_aload_n eL_law_808 rfl ?_
  refine ks_arg (j := 1) eL_law_809 eL_law_810 eL_law_812 eL_law_813 eL_law_814 (by decide) (by decide) hs hL hi ?_
  refine ks_callV (As := [.int (xs (i + 1))]) (mc := 0) (ms := 0) (Y' := mX12_planAt) eL_law_815 l_RL_107 kX12_planAt iX12_planAt nX12_planAt hc2 rfl rfl (cat_le v) hm (Nat.zero_le _) (Nat.zero_le _) ?_
  intro v2 g2 hq2
  obtain ⟨x, rfl, rfl, hP⟩ := hp v2 g2 hq2
  exact ks_icmp_eq (x := x) (y := x) (st := []) eL_law_818 (fun _ => kn g2 hP) (fun h => absurd rfl h)
theorem LC_20 (hs : ScG G sb L xs) (hL : L ≤ 3072) (hi : i + 6 ≤ L) (hp : PairP G (d + 24) mX11_passes mX12_passes b c [] g (LI G b c o)) (kn : ∀ g', LI G b c o g' → K G (d + 25) kc ks mL_law 1336 [some (.ref sb), some (.ref b), some (.ref c), some (.ref o), some (.int (nI i)), x5, x6] [] g' Q) : K G (d + 25) kc ks mL_law 823 [some (.ref sb), some (.ref b), some (.ref c), some (.ref o), some (.int (nI i)), x5, x6] [] g Q := by
  obtain ⟨⟨fs, hb⟩, Qx, hx, hp⟩ := hp
  refine ks_aload_n eL_law_823 rfl ?_
  refine ks_callV (As := []) (mc := 0) (ms := 0) (Y' := mX11_passes) eL_law_824 l_RL_108 kX11_passes iX11_passes nX11_passes hb rfl rfl (Nat.zero_le _) hx (Nat.zero_le _) (Nat.zero_le _) ?_
  intro v g1 hq1
  obtain ⟨⟨fs2, hc2⟩, Qm, hm, hp⟩ := hp v g1 hq1
  refine ks_aload_n eL_law_827 rfl ?_
  refine ks_callV (As := []) (mc := 0) (ms := 0) (Y' := mX12_passes) eL_law_828 l_RL_111 kX12_passes iX12_passes nX12_passes hc2 rfl rfl (cat_le v) hm (Nat.zero_le _) (Nat.zero_le _) ?_
  intro v2 g2 hq2
  obtain ⟨x, rfl, rfl, hP⟩ := hp v2 g2 hq2
  exact ks_icmp_eq (x := x) (y := x) (st := []) eL_law_831 (fun _ => kn g2 hP) (fun h => absurd rfl h)
theorem LC_21 (hs : ScG G sb L xs) (hL : L ≤ 3072) (hi : i + 6 ≤ L) (hp : PairP G (d + 24) mX11_been mX12_been b c [.int (xs (i + 1))] g (LI G b c o)) (kn : ∀ g', LI G b c o g' → K G (d + 25) kc ks mL_law 1336 [some (.ref sb), some (.ref b), some (.ref c), some (.ref o), some (.int (nI i)), x5, x6] [] g' Q) : K G (d + 25) kc ks mL_law 836 [some (.ref sb), some (.ref b), some (.ref c), some (.ref o), some (.int (nI i)), x5, x6] [] g Q := by
  obtain ⟨⟨fs, hb⟩, Qx, hx, hp⟩ := hp
  refine ks_aload_n eL_law_836 rfl ?_
  refine ks_arg (j := 1) eL_law_837 eL_law_838 eL_law_840 eL_law_841 eL_law_842 (by decide) (by decide) hs hL hi ?_
  refine ks_callV (As := [.int (xs (i + 1))]) (mc := 0) (ms := 0) (Y' := mX11_been) eL_law_843 l_RL_112 kX11_been iX11_been nX11_been hb rfl rfl (Nat.zero_le _) hx (Nat.zero_le _) (Nat.zero_le _) ?_
  intro v g1 hq1
  obtain ⟨⟨fs2, hc2⟩, Qm, hm, hp⟩ := hp v g1 hq1
  refine ks_aload_n eL_law_846 rfl ?_
  refine ks_arg (j := 1) eL_law_847 eL_law_848 eL_law_850 eL_law_851 eL_law_852 (by decide) (by decide) hs hL hi ?_
  refine ks_callV (As := [.int (xs (i + 1))]) (mc := 0) (ms := 0) (Y' := mX12_been) eL_law_853 l_RL_115 kX12_been iX12_been nX12_been hc2 rfl rfl (cat_le v) hm (Nat.zero_le _) (Nat.zero_le _) ?_
  intro v2 g2 hq2
  obtain ⟨x, rfl, rfl, hP⟩ := hp v2 g2 hq2
  exact ks_icmp_eq (x := x) (y := x) (st := []) eL_law_856 (fun _ => kn g2 hP) (fun h => absurd rfl h)
theorem LC_22 (hs : ScG G sb L xs) (hL : L ≤ 3072) (hi : i + 6 ≤ L) (hp : PairP G (d + 24) mX11_beenAt mX12_beenAt b c [.int (xs (i + 1))] g (LI G b c o)) (kn : ∀ g', LI G b c o g' → K G (d + 25) kc ks mL_law 1336 [some (.ref sb), some (.ref b), some (.ref c), some (.ref o), some (.int (nI i)), x5, x6] [] g' Q) : K G (d + 25) kc ks mL_law 861 [some (.ref sb), some (.ref b), some (.ref c), some (.ref o), some (.int (nI i)), x5, x6] [] g Q := by
  obtain ⟨⟨fs, hb⟩, Qx, hx, hp⟩ := hp
  refine ks_aload_n eL_law_861 rfl ?_
  refine ks_arg (j := 1) eL_law_862 eL_law_863 eL_law_865 eL_law_866 eL_law_867 (by decide) (by decide) hs hL hi ?_
  refine ks_callV (As := [.int (xs (i + 1))]) (mc := 0) (ms := 0) (Y' := mX11_beenAt) eL_law_868 l_RL_116 kX11_beenAt iX11_beenAt nX11_beenAt hb rfl rfl (Nat.zero_le _) hx (Nat.zero_le _) (Nat.zero_le _) ?_
  intro v g1 hq1
  obtain ⟨⟨fs2, hc2⟩, Qm, hm, hp⟩ := hp v g1 hq1
  refine ks_aload_n eL_law_871 rfl ?_
  refine ks_arg (j := 1) eL_law_872 eL_law_873 eL_law_875 eL_law_876 eL_law_877 (by decide) (by decide) hs hL hi ?_
  refine ks_callV (As := [.int (xs (i + 1))]) (mc := 0) (ms := 0) (Y' := mX12_beenAt) eL_law_878 l_RL_119 kX12_beenAt iX12_beenAt nX12_beenAt hc2 rfl rfl (cat_le v) hm (Nat.zero_le _) (Nat.zero_le _) ?_
  intro v2 g2 hq2
  obtain ⟨x, rfl, rfl, hP⟩ := hp v2 g2 hq2
  exact ks_icmp_eq (x := x) (y := x) (st := []) eL_law_881 (fun _ => kn g2 hP) (fun h => absurd rfl h)
theorem LC_23 (hs : ScG G sb L xs) (hL : L ≤ 3072) (hi : i + 6 ≤ L) (hp : PairP G (d + 24) mX11_ask mX12_ask b c [] g (LI G b c o)) (kn : ∀ g', LI G b c o g' → K G (d + 25) kc ks mL_law 1336 [some (.ref sb), some (.ref b), some (.ref c), some (.ref o), some (.int (nI i)), x5, x6] [] g' Q) : K G (d + 25) kc ks mL_law 886 [some (.ref sb), some (.ref b), some (.ref c), some (.ref o), some (.int (nI i)), x5, x6] [] g Q := by
  obtain ⟨⟨fs, hb⟩, Qx, hx, hp⟩ := hp
  refine ks_aload_n eL_law_886 rfl ?_
  refine ks_callV (As := []) (mc := 0) (ms := 0) (Y' := mX11_ask) eL_law_887 l_RL_120 kX11_ask iX11_ask nX11_ask hb rfl rfl (Nat.zero_le _) hx (Nat.zero_le _) (Nat.zero_le _) ?_
  intro v g1 hq1
  obtain ⟨⟨fs2, hc2⟩, Qm, hm, hp⟩ := hp v g1 hq1
  refine ks_aload_n eL_law_890 rfl ?_
  refine ks_callV (As := []) (mc := 0) (ms := 0) (Y' := mX12_ask) eL_law_891 l_RL_123 kX12_ask iX12_ask nX12_ask hc2 rfl rfl (cat_le v) hm (Nat.zero_le _) (Nat.zero_le _) ?_
  intro v2 g2 hq2
  obtain ⟨x, rfl, rfl, hP⟩ := hp v2 g2 hq2
  exact ks_icmp_eq (x := x) (y := x) (st := []) eL_law_894 (fun _ => kn g2 hP) (fun h => absurd rfl h)
theorem LC_24 (hs : ScG G sb L xs) (hL : L ≤ 3072) (hi : i + 6 ≤ L) (hp : PairP G (d + 24) mX11_hung mX12_hung b c [.int (xs (i + 1))] g (LI G b c o)) (kn : ∀ g', LI G b c o g' → K G (d + 25) kc ks mL_law 1336 [some (.ref sb), some (.ref b), some (.ref c), some (.ref o), some (.int (nI i)), x5, x6] [] g' Q) : K G (d + 25) kc ks mL_law 899 [some (.ref sb), some (.ref b), some (.ref c), some (.ref o), some (.int (nI i)), x5, x6] [] g Q := by
  obtain ⟨⟨fs, hb⟩, Qx, hx, hp⟩ := hp
  refine ks_aload_n eL_law_899 rfl ?_
  refine ks_arg (j := 1) eL_law_900 eL_law_901 eL_law_903 eL_law_904 eL_law_905 (by decide) (by decide) hs hL hi ?_
  refine ks_callV (As := [.int (xs (i + 1))]) (mc := 0) (ms := 0) (Y' := mX11_hung) eL_law_906 l_RL_124 kX11_hung iX11_hung nX11_hung hb rfl rfl (Nat.zero_le _) hx (Nat.zero_le _) (Nat.zero_le _) ?_
  intro v g1 hq1
  obtain ⟨⟨fs2, hc2⟩, Qm, hm, hp⟩ := hp v g1 hq1
  refine ks_aload_n eL_law_909 rfl ?_
  refine ks_arg (j := 1) eL_law_910 eL_law_911 eL_law_913 eL_law_914 eL_law_915 (by decide) (by decide) hs hL hi ?_
  refine ks_callV (As := [.int (xs (i + 1))]) (mc := 0) (ms := 0) (Y' := mX12_hung) eL_law_916 l_RL_127 kX12_hung iX12_hung nX12_hung hc2 rfl rfl (cat_le v) hm (Nat.zero_le _) (Nat.zero_le _) ?_
  intro v2 g2 hq2
  obtain ⟨x, rfl, rfl, hP⟩ := hp v2 g2 hq2
  exact ks_icmp_eq (x := x) (y := x) (st := []) eL_law_919 (fun _ => kn g2 hP) (fun h => absurd rfl h)
theorem LC_25 (hs : ScG G sb L xs) (hL : L ≤ 3072) (hi : i + 6 ≤ L) (hp : PairP G (d + 24) mX11_hanging mX12_hanging b c [] g (LI G b c o)) (kn : ∀ g', LI G b c o g' → K G (d + 25) kc ks mL_law 1336 [some (.ref sb), some (.ref b), some (.ref c), some (.ref o), some (.int (nI i)), x5, x6] [] g' Q) : K G (d + 25) kc ks mL_law 924 [some (.ref sb), some (.ref b), some (.ref c), some (.ref o), some (.int (nI i)), x5, x6] [] g Q := by
  obtain ⟨⟨fs, hb⟩, Qx, hx, hp⟩ := hp
  refine ks_aload_n eL_law_924 rfl ?_
  refine ks_callV (As := []) (mc := 0) (ms := 0) (Y' := mX11_hanging) eL_law_925 l_RL_128 kX11_hanging iX11_hanging nX11_hanging hb rfl rfl (Nat.zero_le _) hx (Nat.zero_le _) (Nat.zero_le _) ?_
  intro v g1 hq1
  obtain ⟨⟨fs2, hc2⟩, Qm, hm, hp⟩ := hp v g1 hq1
  refine ks_aload_n eL_law_928 rfl ?_
  refine ks_callV (As := []) (mc := 0) (ms := 0) (Y' := mX12_hanging) eL_law_929 l_RL_131 kX12_hanging iX12_hanging nX12_hanging hc2 rfl rfl (cat_le v) hm (Nat.zero_le _) (Nat.zero_le _) ?_
  intro v2 g2 hq2
  obtain ⟨x, rfl, rfl, hP⟩ := hp v2 g2 hq2
  exact ks_icmp_eq (x := x) (y := x) (st := []) eL_law_932 (fun _ => kn g2 hP) (fun h => absurd rfl h)
theorem LC_26 (hs : ScG G sb L xs) (hL : L ≤ 3072) (hi : i + 6 ≤ L) (hp : PairP G (d + 24) mX11_holds mX12_holds b c [.int (xs (i + 1)), .int (xs (i + 2))] g (LI G b c o)) (kn : ∀ g', LI G b c o g' → K G (d + 25) kc ks mL_law 1336 [some (.ref sb), some (.ref b), some (.ref c), some (.ref o), some (.int (nI i)), x5, x6] [] g' Q) : K G (d + 25) kc ks mL_law 937 [some (.ref sb), some (.ref b), some (.ref c), some (.ref o), some (.int (nI i)), x5, x6] [] g Q := by
  obtain ⟨⟨fs, hb⟩, Qx, hx, hp⟩ := hp
  refine ks_aload_n eL_law_937 rfl ?_
  refine ks_arg (j := 1) eL_law_938 eL_law_939 eL_law_941 eL_law_942 eL_law_943 (by decide) (by decide) hs hL hi ?_
  refine ks_arg (j := 2) eL_law_944 eL_law_945 eL_law_947 eL_law_948 eL_law_949 (by decide) (by decide) hs hL hi ?_
  refine ks_callV (As := [.int (xs (i + 1)), .int (xs (i + 2))]) (mc := 0) (ms := 0) (Y' := mX11_holds) eL_law_950 l_RL_132 kX11_holds iX11_holds nX11_holds hb rfl rfl (Nat.zero_le _) hx (Nat.zero_le _) (Nat.zero_le _) ?_
  intro v g1 hq1
  obtain ⟨⟨fs2, hc2⟩, Qm, hm, hp⟩ := hp v g1 hq1
  refine ks_aload_n eL_law_953 rfl ?_
  refine ks_arg (j := 1) eL_law_954 eL_law_955 eL_law_957 eL_law_958 eL_law_959 (by decide) (by decide) hs hL hi ?_
  refine ks_arg (j := 2) eL_law_960 eL_law_961 eL_law_963 eL_law_964 eL_law_965 (by decide) (by decide) hs hL hi ?_
  refine ks_callV (As := [.int (xs (i + 1)), .int (xs (i + 2))]) (mc := 0) (ms := 0) (Y' := mX12_holds) eL_law_966 l_RL_135 kX12_holds iX12_holds nX12_holds hc2 rfl rfl (cat_le v) hm (Nat.zero_le _) (Nat.zero_le _) ?_
  intro v2 g2 hq2
  obtain ⟨x, rfl, rfl, hP⟩ := hp v2 g2 hq2
  exact ks_icmp_eq (x := x) (y := x) (st := []) eL_law_969 (fun _ => kn g2 hP) (fun h => absurd rfl h)
theorem LC_27 (hs : ScG G sb L xs) (hL : L ≤ 3072) (hi : i + 6 ≤ L) (hp : PairP G (d + 24) mX11_web mX12_web b c [.int (xs (i + 1))] g (LI G b c o)) (kn : ∀ g', LI G b c o g' → K G (d + 25) kc ks mL_law 1336 [some (.ref sb), some (.ref b), some (.ref c), some (.ref o), some (.int (nI i)), x5, x6] [] g' Q) : K G (d + 25) kc ks mL_law 974 [some (.ref sb), some (.ref b), some (.ref c), some (.ref o), some (.int (nI i)), x5, x6] [] g Q := by
  obtain ⟨⟨fs, hb⟩, Qx, hx, hp⟩ := hp
  refine ks_aload_n eL_law_974 rfl ?_
  refine ks_arg (j := 1) eL_law_975 eL_law_976 eL_law_978 eL_law_979 eL_law_980 (by decide) (by decide) hs hL hi ?_
  refine ks_callV (As := [.int (xs (i + 1))]) (mc := 0) (ms := 0) (Y' := mX11_web) eL_law_981 l_RL_136 kX11_web iX11_web nX11_web hb rfl rfl (Nat.zero_le _) hx (Nat.zero_le _) (Nat.zero_le _) ?_
  intro v g1 hq1
  obtain ⟨⟨fs2, hc2⟩, Qm, hm, hp⟩ := hp v g1 hq1
  refine ks_aload_n eL_law_984 rfl ?_
  refine ks_arg (j := 1) eL_law_985 eL_law_986 eL_law_988 eL_law_989 eL_law_990 (by decide) (by decide) hs hL hi ?_
  refine ks_callV (As := [.int (xs (i + 1))]) (mc := 0) (ms := 0) (Y' := mX12_web) eL_law_991 l_RL_139 kX12_web iX12_web nX12_web hc2 rfl rfl (cat_le v) hm (Nat.zero_le _) (Nat.zero_le _) ?_
  intro v2 g2 hq2
  obtain ⟨x, rfl, rfl, hP⟩ := hp v2 g2 hq2
  exact ks_icmp_eq (x := x) (y := x) (st := []) eL_law_994 (fun _ => kn g2 hP) (fun h => absurd rfl h)
theorem LC_28 (hs : ScG G sb L xs) (hL : L ≤ 3072) (hi : i + 6 ≤ L) (hp : PairP G (d + 24) mX11_bargain mX12_bargain b c [] g (LI G b c o)) (kn : ∀ g', LI G b c o g' → K G (d + 25) kc ks mL_law 1336 [some (.ref sb), some (.ref b), some (.ref c), some (.ref o), some (.int (nI i)), x5, x6] [] g' Q) : K G (d + 25) kc ks mL_law 999 [some (.ref sb), some (.ref b), some (.ref c), some (.ref o), some (.int (nI i)), x5, x6] [] g Q := by
  obtain ⟨⟨fs, hb⟩, Qx, hx, hp⟩ := hp
  refine ks_aload_n eL_law_999 rfl ?_
  refine ks_callV (As := []) (mc := 0) (ms := 0) (Y' := mX11_bargain) eL_law_1000 l_RL_140 kX11_bargain iX11_bargain nX11_bargain hb rfl rfl (Nat.zero_le _) hx (Nat.zero_le _) (Nat.zero_le _) ?_
  intro v g1 hq1
  obtain ⟨⟨fs2, hc2⟩, Qm, hm, hp⟩ := hp v g1 hq1
  refine ks_aload_n eL_law_1003 rfl ?_
  refine ks_callV (As := []) (mc := 0) (ms := 0) (Y' := mX12_bargain) eL_law_1004 l_RL_143 kX12_bargain iX12_bargain nX12_bargain hc2 rfl rfl (cat_le v) hm (Nat.zero_le _) (Nat.zero_le _) ?_
  intro v2 g2 hq2
  obtain ⟨x, rfl, rfl, hP⟩ := hp v2 g2 hq2
  exact ks_icmp_eq (x := x) (y := x) (st := []) eL_law_1007 (fun _ => kn g2 hP) (fun h => absurd rfl h)
theorem LC_29 (hs : ScG G sb L xs) (hL : L ≤ 3072) (hi : i + 6 ≤ L) (hp : PairP G (d + 24) mX11_bargained mX12_bargained b c [.int (xs (i + 1))] g (LI G b c o)) (kn : ∀ g', LI G b c o g' → K G (d + 25) kc ks mL_law 1336 [some (.ref sb), some (.ref b), some (.ref c), some (.ref o), some (.int (nI i)), x5, x6] [] g' Q) : K G (d + 25) kc ks mL_law 1012 [some (.ref sb), some (.ref b), some (.ref c), some (.ref o), some (.int (nI i)), x5, x6] [] g Q := by
  obtain ⟨⟨fs, hb⟩, Qx, hx, hp⟩ := hp
  refine ks_aload_n eL_law_1012 rfl ?_
  refine ks_arg (j := 1) eL_law_1013 eL_law_1014 eL_law_1016 eL_law_1017 eL_law_1018 (by decide) (by decide) hs hL hi ?_
  refine ks_callV (As := [.int (xs (i + 1))]) (mc := 0) (ms := 0) (Y' := mX11_bargained) eL_law_1019 l_RL_144 kX11_bargained iX11_bargained nX11_bargained hb rfl rfl (Nat.zero_le _) hx (Nat.zero_le _) (Nat.zero_le _) ?_
  intro v g1 hq1
  obtain ⟨⟨fs2, hc2⟩, Qm, hm, hp⟩ := hp v g1 hq1
  refine ks_aload_n eL_law_1022 rfl ?_
  refine ks_arg (j := 1) eL_law_1023 eL_law_1024 eL_law_1026 eL_law_1027 eL_law_1028 (by decide) (by decide) hs hL hi ?_
  refine ks_callV (As := [.int (xs (i + 1))]) (mc := 0) (ms := 0) (Y' := mX12_bargained) eL_law_1029 l_RL_147 kX12_bargained iX12_bargained nX12_bargained hc2 rfl rfl (cat_le v) hm (Nat.zero_le _) (Nat.zero_le _) ?_
  intro v2 g2 hq2
  obtain ⟨x, rfl, rfl, hP⟩ := hp v2 g2 hq2
  exact ks_icmp_eq (x := x) (y := x) (st := []) eL_law_1032 (fun _ => kn g2 hP) (fun h => absurd rfl h)
theorem LC_30 (hs : ScG G sb L xs) (hL : L ≤ 3072) (hi : i + 6 ≤ L) (hp : PairP G (d + 24) mX11_cover mX12_cover b c [.int (xs (i + 1))] g (LI G b c o)) (kn : ∀ g', LI G b c o g' → K G (d + 25) kc ks mL_law 1336 [some (.ref sb), some (.ref b), some (.ref c), some (.ref o), some (.int (nI i)), x5, x6] [] g' Q) : K G (d + 25) kc ks mL_law 1037 [some (.ref sb), some (.ref b), some (.ref c), some (.ref o), some (.int (nI i)), x5, x6] [] g Q := by
  obtain ⟨⟨fs, hb⟩, Qx, hx, hp⟩ := hp
  refine ks_aload_n eL_law_1037 rfl ?_
  refine ks_arg (j := 1) eL_law_1038 eL_law_1039 eL_law_1041 eL_law_1042 eL_law_1043 (by decide) (by decide) hs hL hi ?_
  refine ks_callV (As := [.int (xs (i + 1))]) (mc := 0) (ms := 0) (Y' := mX11_cover) eL_law_1044 l_RL_148 kX11_cover iX11_cover nX11_cover hb rfl rfl (Nat.zero_le _) hx (Nat.zero_le _) (Nat.zero_le _) ?_
  intro v g1 hq1
  obtain ⟨⟨fs2, hc2⟩, Qm, hm, hp⟩ := hp v g1 hq1
  refine ks_aload_n eL_law_1047 rfl ?_
  refine ks_arg (j := 1) eL_law_1048 eL_law_1049 eL_law_1051 eL_law_1052 eL_law_1053 (by decide) (by decide) hs hL hi ?_
  refine ks_callV (As := [.int (xs (i + 1))]) (mc := 0) (ms := 0) (Y' := mX12_cover) eL_law_1054 l_RL_151 kX12_cover iX12_cover nX12_cover hc2 rfl rfl (cat_le v) hm (Nat.zero_le _) (Nat.zero_le _) ?_
  intro v2 g2 hq2
  obtain ⟨x, rfl, rfl, hP⟩ := hp v2 g2 hq2
  exact ks_icmp_eq (x := x) (y := x) (st := []) eL_law_1057 (fun _ => kn g2 hP) (fun h => absurd rfl h)
theorem LC_31 (hs : ScG G sb L xs) (hL : L ≤ 3072) (hi : i + 6 ≤ L) (hp : PairP G (d + 24) mX11_byteAt mX12_byteAt b c [.int (xs (i + 1))] g (LI G b c o)) (kn : ∀ g', LI G b c o g' → K G (d + 25) kc ks mL_law 1336 [some (.ref sb), some (.ref b), some (.ref c), some (.ref o), some (.int (nI i)), x5, x6] [] g' Q) : K G (d + 25) kc ks mL_law 1062 [some (.ref sb), some (.ref b), some (.ref c), some (.ref o), some (.int (nI i)), x5, x6] [] g Q := by
  obtain ⟨⟨fs, hb⟩, Qx, hx, hp⟩ := hp
  refine ks_aload_n eL_law_1062 rfl ?_
  refine ks_arg (j := 1) eL_law_1063 eL_law_1064 eL_law_1066 eL_law_1067 eL_law_1068 (by decide) (by decide) hs hL hi ?_
  refine ks_callV (As := [.int (xs (i + 1))]) (mc := 0) (ms := 0) (Y' := mX11_byteAt) eL_law_1069 l_RL_152 kX11_byteAt iX11_byteAt nX11_byteAt hb rfl rfl (Nat.zero_le _) hx (Nat.zero_le _) (Nat.zero_le _) ?_
  intro v g1 hq1
  obtain ⟨⟨fs2, hc2⟩, Qm, hm, hp⟩ := hp v g1 hq1
  refine ks_aload_n eL_law_1072 rfl ?_
  refine ks_arg (j := 1) eL_law_1073 eL_law_1074 eL_law_1076 eL_law_1077 eL_law_1078 (by decide) (by decide) hs hL hi ?_
  refine ks_callV (As := [.int (xs (i + 1))]) (mc := 0) (ms := 0) (Y' := mX12_byteAt) eL_law_1079 l_RL_155 kX12_byteAt iX12_byteAt nX12_byteAt hc2 rfl rfl (cat_le v) hm (Nat.zero_le _) (Nat.zero_le _) ?_
  intro v2 g2 hq2
  obtain ⟨x, rfl, rfl, hP⟩ := hp v2 g2 hq2
  exact ks_icmp_eq (x := x) (y := x) (st := []) eL_law_1082 (fun _ => kn g2 hP) (fun h => absurd rfl h)
theorem LC_32 (hs : ScG G sb L xs) (hL : L ≤ 3072) (hi : i + 6 ≤ L) (hp : PairP G (d + 24) mX11_drawn mX12_drawn b c [.int (xs (i + 1)), .int (xs (i + 2))] g (LI G b c o)) (kn : ∀ g', LI G b c o g' → K G (d + 25) kc ks mL_law 1336 [some (.ref sb), some (.ref b), some (.ref c), some (.ref o), some (.int (nI i)), x5, x6] [] g' Q) : K G (d + 25) kc ks mL_law 1087 [some (.ref sb), some (.ref b), some (.ref c), some (.ref o), some (.int (nI i)), x5, x6] [] g Q := by
  obtain ⟨⟨fs, hb⟩, Qx, hx, hp⟩ := hp
  refine ks_aload_n eL_law_1087 rfl ?_
  refine ks_arg (j := 1) eL_law_1088 eL_law_1089 eL_law_1091 eL_law_1092 eL_law_1093 (by decide) (by decide) hs hL hi ?_
  refine ks_arg (j := 2) eL_law_1094 eL_law_1095 eL_law_1097 eL_law_1098 eL_law_1099 (by decide) (by decide) hs hL hi ?_
  refine ks_callV (As := [.int (xs (i + 1)), .int (xs (i + 2))]) (mc := 0) (ms := 0) (Y' := mX11_drawn) eL_law_1100 l_RL_156 kX11_drawn iX11_drawn nX11_drawn hb rfl rfl (Nat.zero_le _) hx (Nat.zero_le _) (Nat.zero_le _) ?_
  intro v g1 hq1
  obtain ⟨⟨fs2, hc2⟩, Qm, hm, hp⟩ := hp v g1 hq1
  refine ks_aload_n eL_law_1103 rfl ?_
  refine ks_arg (j := 1) eL_law_1104 eL_law_1105 eL_law_1107 eL_law_1108 eL_law_1109 (by decide) (by decide) hs hL hi ?_
  refine ks_arg (j := 2) eL_law_1110 eL_law_1111 eL_law_1113 eL_law_1114 eL_law_1115 (by decide) (by decide) hs hL hi ?_
  refine ks_callV (As := [.int (xs (i + 1)), .int (xs (i + 2))]) (mc := 0) (ms := 0) (Y' := mX12_drawn) eL_law_1116 l_RL_159 kX12_drawn iX12_drawn nX12_drawn hc2 rfl rfl (cat_le v) hm (Nat.zero_le _) (Nat.zero_le _) ?_
  intro v2 g2 hq2
  obtain ⟨x, rfl, rfl, hP⟩ := hp v2 g2 hq2
  exact ks_icmp_eq (x := x) (y := x) (st := []) eL_law_1119 (fun _ => kn g2 hP) (fun h => absurd rfl h)
theorem LC_33 (hs : ScG G sb L xs) (hL : L ≤ 3072) (hi : i + 6 ≤ L) (hp : PairP G (d + 24) mX11_odds mX12_odds b c [.int (xs (i + 1)), .int (xs (i + 2)), .int (xs (i + 3))] g (LI G b c o)) (kn : ∀ g', LI G b c o g' → K G (d + 25) kc ks mL_law 1336 [some (.ref sb), some (.ref b), some (.ref c), some (.ref o), some (.int (nI i)), x5, x6] [] g' Q) : K G (d + 25) kc ks mL_law 1124 [some (.ref sb), some (.ref b), some (.ref c), some (.ref o), some (.int (nI i)), x5, x6] [] g Q := by
  obtain ⟨⟨fs, hb⟩, Qx, hx, hp⟩ := hp
  refine ks_aload_n eL_law_1124 rfl ?_
  refine ks_arg (j := 1) eL_law_1125 eL_law_1126 eL_law_1128 eL_law_1129 eL_law_1130 (by decide) (by decide) hs hL hi ?_
  refine ks_arg (j := 2) eL_law_1131 eL_law_1132 eL_law_1134 eL_law_1135 eL_law_1136 (by decide) (by decide) hs hL hi ?_
  refine ks_arg (j := 3) eL_law_1137 eL_law_1138 eL_law_1140 eL_law_1141 eL_law_1142 (by decide) (by decide) hs hL hi ?_
  refine ks_callV (As := [.int (xs (i + 1)), .int (xs (i + 2)), .int (xs (i + 3))]) (mc := 0) (ms := 0) (Y' := mX11_odds) eL_law_1143 l_RL_160 kX11_odds iX11_odds nX11_odds hb rfl rfl (Nat.zero_le _) hx (Nat.zero_le _) (Nat.zero_le _) ?_
  intro v g1 hq1
  obtain ⟨⟨fs2, hc2⟩, Qm, hm, hp⟩ := hp v g1 hq1
  refine ks_aload_n eL_law_1146 rfl ?_
  refine ks_arg (j := 1) eL_law_1147 eL_law_1148 eL_law_1150 eL_law_1151 eL_law_1152 (by decide) (by decide) hs hL hi ?_
  refine ks_arg (j := 2) eL_law_1153 eL_law_1154 eL_law_1156 eL_law_1157 eL_law_1158 (by decide) (by decide) hs hL hi ?_
  refine ks_arg (j := 3) eL_law_1159 eL_law_1160 eL_law_1162 eL_law_1163 eL_law_1164 (by decide) (by decide) hs hL hi ?_
  refine ks_callV (As := [.int (xs (i + 1)), .int (xs (i + 2)), .int (xs (i + 3))]) (mc := 0) (ms := 0) (Y' := mX12_odds) eL_law_1165 l_RL_164 kX12_odds iX12_odds nX12_odds hc2 rfl rfl (cat_le v) hm (Nat.zero_le _) (Nat.zero_le _) ?_
  intro v2 g2 hq2
  obtain ⟨x, rfl, rfl, hP⟩ := hp v2 g2 hq2
  exact ks_icmp_eq (x := x) (y := x) (st := []) eL_law_1168 (fun _ => kn g2 hP) (fun h => absurd rfl h)
theorem LC_34 (hs : ScG G sb L xs) (hL : L ≤ 3072) (hi : i + 6 ≤ L) (hp : PairP G (d + 24) mX11_book mX12_book b c [.int (xs (i + 1))] g (LI G b c o)) (kn : ∀ g', LI G b c o g' → K G (d + 25) kc ks mL_law 1336 [some (.ref sb), some (.ref b), some (.ref c), some (.ref o), some (.int (nI i)), x5, x6] [] g' Q) : K G (d + 25) kc ks mL_law 1173 [some (.ref sb), some (.ref b), some (.ref c), some (.ref o), some (.int (nI i)), x5, x6] [] g Q := by
  obtain ⟨⟨fs, hb⟩, Qx, hx, hp⟩ := hp
  refine ks_aload_n eL_law_1173 rfl ?_
  refine ks_arg (j := 1) eL_law_1174 eL_law_1175 eL_law_1177 eL_law_1178 eL_law_1179 (by decide) (by decide) hs hL hi ?_
  refine ks_callV (As := [.int (xs (i + 1))]) (mc := 0) (ms := 0) (Y' := mX11_book) eL_law_1180 l_RL_165 kX11_book iX11_book nX11_book hb rfl rfl (Nat.zero_le _) hx (Nat.zero_le _) (Nat.zero_le _) ?_
  intro v g1 hq1
  obtain ⟨⟨fs2, hc2⟩, Qm, hm, hp⟩ := hp v g1 hq1
  refine ks_aload_n eL_law_1183 rfl ?_
  refine ks_arg (j := 1) eL_law_1184 eL_law_1185 eL_law_1187 eL_law_1188 eL_law_1189 (by decide) (by decide) hs hL hi ?_
  refine ks_callV (As := [.int (xs (i + 1))]) (mc := 0) (ms := 0) (Y' := mX12_book) eL_law_1190 l_RL_168 kX12_book iX12_book nX12_book hc2 rfl rfl (cat_le v) hm (Nat.zero_le _) (Nat.zero_le _) ?_
  intro v2 g2 hq2
  obtain ⟨x, rfl, rfl, hP⟩ := hp v2 g2 hq2
  exact ks_icmp_eq (x := x) (y := x) (st := []) eL_law_1193 (fun _ => kn g2 hP) (fun h => absurd rfl h)
theorem LC_35 (hs : ScG G sb L xs) (hL : L ≤ 3072) (hi : i + 6 ≤ L) (hp : PairP G (d + 24) mX11_told mX12_told b c [.int (xs (i + 1))] g (LI G b c o)) (kn : ∀ g', LI G b c o g' → K G (d + 25) kc ks mL_law 1336 [some (.ref sb), some (.ref b), some (.ref c), some (.ref o), some (.int (nI i)), x5, x6] [] g' Q) : K G (d + 25) kc ks mL_law 1198 [some (.ref sb), some (.ref b), some (.ref c), some (.ref o), some (.int (nI i)), x5, x6] [] g Q := by
  obtain ⟨⟨fs, hb⟩, Qx, hx, hp⟩ := hp
  refine ks_aload_n eL_law_1198 rfl ?_
  refine ks_arg (j := 1) eL_law_1199 eL_law_1200 eL_law_1202 eL_law_1203 eL_law_1204 (by decide) (by decide) hs hL hi ?_
  refine ks_callV (As := [.int (xs (i + 1))]) (mc := 0) (ms := 0) (Y' := mX11_told) eL_law_1205 l_RL_169 kX11_told iX11_told nX11_told hb rfl rfl (Nat.zero_le _) hx (Nat.zero_le _) (Nat.zero_le _) ?_
  intro v g1 hq1
  obtain ⟨⟨fs2, hc2⟩, Qm, hm, hp⟩ := hp v g1 hq1
  refine ks_aload_n eL_law_1208 rfl ?_
  refine ks_arg (j := 1) eL_law_1209 eL_law_1210 eL_law_1212 eL_law_1213 eL_law_1214 (by decide) (by decide) hs hL hi ?_
  refine ks_callV (As := [.int (xs (i + 1))]) (mc := 0) (ms := 0) (Y' := mX12_told) eL_law_1215 l_RL_172 kX12_told iX12_told nX12_told hc2 rfl rfl (cat_le v) hm (Nat.zero_le _) (Nat.zero_le _) ?_
  intro v2 g2 hq2
  obtain ⟨x, rfl, rfl, hP⟩ := hp v2 g2 hq2
  exact ks_icmp_eq (x := x) (y := x) (st := []) eL_law_1218 (fun _ => kn g2 hP) (fun h => absurd rfl h)
theorem LC_36 (hs : ScG G sb L xs) (hL : L ≤ 3072) (hi : i + 6 ≤ L) (hp : PairP G (d + 24) mX11_sentence mX12_sentence b c [] g (LI G b c o)) (kn : ∀ g', LI G b c o g' → K G (d + 25) kc ks mL_law 1336 [some (.ref sb), some (.ref b), some (.ref c), some (.ref o), some (.int (nI i)), x5, x6] [] g' Q) : K G (d + 25) kc ks mL_law 1223 [some (.ref sb), some (.ref b), some (.ref c), some (.ref o), some (.int (nI i)), x5, x6] [] g Q := by
  obtain ⟨⟨fs, hb⟩, Qx, hx, hp⟩ := hp
  refine ks_aload_n eL_law_1223 rfl ?_
  refine ks_callV (As := []) (mc := 0) (ms := 0) (Y' := mX11_sentence) eL_law_1224 l_RL_173 kX11_sentence iX11_sentence nX11_sentence hb rfl rfl (Nat.zero_le _) hx (Nat.zero_le _) (Nat.zero_le _) ?_
  intro v g1 hq1
  obtain ⟨⟨fs2, hc2⟩, Qm, hm, hp⟩ := hp v g1 hq1
  refine ks_aload_n eL_law_1227 rfl ?_
  refine ks_callV (As := []) (mc := 0) (ms := 0) (Y' := mX12_sentence) eL_law_1228 l_RL_176 kX12_sentence iX12_sentence nX12_sentence hc2 rfl rfl (cat_le v) hm (Nat.zero_le _) (Nat.zero_le _) ?_
  intro v2 g2 hq2
  obtain ⟨x, rfl, rfl, hP⟩ := hp v2 g2 hq2
  exact ks_icmp_eq (x := x) (y := x) (st := []) eL_law_1231 (fun _ => kn g2 hP) (fun h => absurd rfl h)
theorem LC_37 (hs : ScG G sb L xs) (hL : L ≤ 3072) (hi : i + 6 ≤ L) (hp : PairP G (d + 24) mX11_said mX12_said b c [.int (xs (i + 1))] g (LI G b c o)) (kn : ∀ g', LI G b c o g' → K G (d + 25) kc ks mL_law 1336 [some (.ref sb), some (.ref b), some (.ref c), some (.ref o), some (.int (nI i)), x5, x6] [] g' Q) : K G (d + 25) kc ks mL_law 1236 [some (.ref sb), some (.ref b), some (.ref c), some (.ref o), some (.int (nI i)), x5, x6] [] g Q := by
  obtain ⟨⟨fs, hb⟩, Qx, hx, hp⟩ := hp
  refine ks_aload_n eL_law_1236 rfl ?_
  refine ks_arg (j := 1) eL_law_1237 eL_law_1238 eL_law_1240 eL_law_1241 eL_law_1242 (by decide) (by decide) hs hL hi ?_
  refine ks_callV (As := [.int (xs (i + 1))]) (mc := 0) (ms := 0) (Y' := mX11_said) eL_law_1243 l_RL_177 kX11_said iX11_said nX11_said hb rfl rfl (Nat.zero_le _) hx (Nat.zero_le _) (Nat.zero_le _) ?_
  intro v g1 hq1
  obtain ⟨⟨fs2, hc2⟩, Qm, hm, hp⟩ := hp v g1 hq1
  refine ks_aload_n eL_law_1246 rfl ?_
  refine ks_arg (j := 1) eL_law_1247 eL_law_1248 eL_law_1250 eL_law_1251 eL_law_1252 (by decide) (by decide) hs hL hi ?_
  refine ks_callV (As := [.int (xs (i + 1))]) (mc := 0) (ms := 0) (Y' := mX12_said) eL_law_1253 l_RL_180 kX12_said iX12_said nX12_said hc2 rfl rfl (cat_le v) hm (Nat.zero_le _) (Nat.zero_le _) ?_
  intro v2 g2 hq2
  obtain ⟨x, rfl, rfl, hP⟩ := hp v2 g2 hq2
  exact ks_icmp_eq (x := x) (y := x) (st := []) eL_law_1256 (fun _ => kn g2 hP) (fun h => absurd rfl h)
theorem LC_38 (hs : ScG G sb L xs) (hL : L ≤ 3072) (hi : i + 6 ≤ L) (hp : PairP G (d + 24) mX11_image mX12_image b c [.int (xs (i + 1))] g (LI G b c o)) (kn : ∀ g', LI G b c o g' → K G (d + 25) kc ks mL_law 1336 [some (.ref sb), some (.ref b), some (.ref c), some (.ref o), some (.int (nI i)), x5, x6] [] g' Q) : K G (d + 25) kc ks mL_law 1261 [some (.ref sb), some (.ref b), some (.ref c), some (.ref o), some (.int (nI i)), x5, x6] [] g Q := by
  obtain ⟨⟨fs, hb⟩, Qx, hx, hp⟩ := hp
  refine ks_aload_n eL_law_1261 rfl ?_
  refine ks_arg (j := 1) eL_law_1262 eL_law_1263 eL_law_1265 eL_law_1266 eL_law_1267 (by decide) (by decide) hs hL hi ?_
  refine ks_callV (As := [.int (xs (i + 1))]) (mc := 0) (ms := 0) (Y' := mX11_image) eL_law_1268 l_RL_181 kX11_image iX11_image nX11_image hb rfl rfl (Nat.zero_le _) hx (Nat.zero_le _) (Nat.zero_le _) ?_
  intro v g1 hq1
  obtain ⟨⟨fs2, hc2⟩, Qm, hm, hp⟩ := hp v g1 hq1
  refine ks_aload_n eL_law_1271 rfl ?_
  refine ks_arg (j := 1) eL_law_1272 eL_law_1273 eL_law_1275 eL_law_1276 eL_law_1277 (by decide) (by decide) hs hL hi ?_
  refine ks_callV (As := [.int (xs (i + 1))]) (mc := 0) (ms := 0) (Y' := mX12_image) eL_law_1278 l_RL_184 kX12_image iX12_image nX12_image hc2 rfl rfl (cat_le v) hm (Nat.zero_le _) (Nat.zero_le _) ?_
  intro v2 g2 hq2
  obtain ⟨x, rfl, rfl, hP⟩ := hp v2 g2 hq2
  exact ks_icmp_eq (x := x) (y := x) (st := []) eL_law_1281 (fun _ => kn g2 hP) (fun h => absurd rfl h)
theorem LC_39 (hs : ScG G sb L xs) (hL : L ≤ 3072) (hi : i + 6 ≤ L) (hp : PairP G (d + 24) mX11_restore mX12_restore b c [.int (xs (i + 1))] g (LI G b c o)) (kn : ∀ g', LI G b c o g' → K G (d + 25) kc ks mL_law 1336 [some (.ref sb), some (.ref b), some (.ref c), some (.ref o), some (.int (nI i)), x5, x6] [] g' Q) : K G (d + 25) kc ks mL_law 1286 [some (.ref sb), some (.ref b), some (.ref c), some (.ref o), some (.int (nI i)), x5, x6] [] g Q := by
  obtain ⟨⟨fs, hb⟩, Qx, hx, hp⟩ := hp
  refine ks_aload_n eL_law_1286 rfl ?_
  refine ks_arg (j := 1) eL_law_1287 eL_law_1288 eL_law_1290 eL_law_1291 eL_law_1292 (by decide) (by decide) hs hL hi ?_
  refine ks_callV (As := [.int (xs (i + 1))]) (mc := 0) (ms := 0) (Y' := mX11_restore) eL_law_1293 l_RL_185 kX11_restore iX11_restore nX11_restore hb rfl rfl (Nat.zero_le _) hx (Nat.zero_le _) (Nat.zero_le _) ?_
  intro v g1 hq1
  obtain ⟨⟨fs2, hc2⟩, Qm, hm, hp⟩ := hp v g1 hq1
  refine ks_aload_n eL_law_1296 rfl ?_
  refine ks_arg (j := 1) eL_law_1297 eL_law_1298 eL_law_1300 eL_law_1301 eL_law_1302 (by decide) (by decide) hs hL hi ?_
  refine ks_callV (As := [.int (xs (i + 1))]) (mc := 0) (ms := 0) (Y' := mX12_restore) eL_law_1303 l_RL_188 kX12_restore iX12_restore nX12_restore hc2 rfl rfl (cat_le v) hm (Nat.zero_le _) (Nat.zero_le _) ?_
  intro v2 g2 hq2
  obtain ⟨x, rfl, rfl, hP⟩ := hp v2 g2 hq2
  exact ks_icmp_eq (x := x) (y := x) (st := []) eL_law_1306 (fun _ => kn g2 hP) (fun h => absurd rfl h)
theorem LC_40 (hs : ScG G sb L xs) (hL : L ≤ 3072) (hi : i + 6 ≤ L) (hp : PairP G (d + 24) mX11_count mX12_count b c [.int (xs (i + 1))] g (LI G b c o)) (kn : ∀ g', LI G b c o g' → K G (d + 25) kc ks mL_law 1336 [some (.ref sb), some (.ref b), some (.ref c), some (.ref o), some (.int (nI i)), x5, x6] [] g' Q) : K G (d + 25) kc ks mL_law 1311 [some (.ref sb), some (.ref b), some (.ref c), some (.ref o), some (.int (nI i)), x5, x6] [] g Q := by
  obtain ⟨⟨fs, hb⟩, Qx, hx, hp⟩ := hp
  refine ks_aload_n eL_law_1311 rfl ?_
  refine ks_arg (j := 1) eL_law_1312 eL_law_1313 eL_law_1315 eL_law_1316 eL_law_1317 (by decide) (by decide) hs hL hi ?_
  refine ks_callV (As := [.int (xs (i + 1))]) (mc := 0) (ms := 0) (Y' := mX11_count) eL_law_1318 l_RL_189 kX11_count iX11_count nX11_count hb rfl rfl (Nat.zero_le _) hx (Nat.zero_le _) (Nat.zero_le _) ?_
  intro v g1 hq1
  obtain ⟨⟨fs2, hc2⟩, Qm, hm, hp⟩ := hp v g1 hq1
  refine ks_aload_n eL_law_1321 rfl ?_
  refine ks_arg (j := 1) eL_law_1322 eL_law_1323 eL_law_1325 eL_law_1326 eL_law_1327 (by decide) (by decide) hs hL hi ?_
  refine ks_callV (As := [.int (xs (i + 1))]) (mc := 0) (ms := 0) (Y' := mX12_count) eL_law_1328 l_RL_192 kX12_count iX12_count nX12_count hc2 rfl rfl (cat_le v) hm (Nat.zero_le _) (Nat.zero_le _) ?_
  intro v2 g2 hq2
  obtain ⟨x, rfl, rfl, hP⟩ := hp v2 g2 hq2
  exact ks_icmp_eq (x := x) (y := x) (st := []) eL_law_1331 (fun _ => kn g2 hP) (fun h => absurd rfl h)
end LC
