/-! The class: blocks read by what is known of the heap -/
section BBtx
variable {G : iG} {a : Nat} {I : Nat → Int32} {A : Nat → Nat → Int32} {N : Nat → Nat → Int64} {h : iH}
theorem txb_o (hB : Blk h a 11 (txE G a I A N)) : h.1 a = some (.inr (8, txFs a I)) := hB 0 (by decide)
theorem txb_1 (hB : Blk h a 11 (txE G a I A N)) : h.1 (a + 1) = some (.inl (G.2.2.2.1 0, 9, .inl (A 1))) := hB 1 (by decide)
theorem txb_2 (hB : Blk h a 11 (txE G a I A N)) : h.1 (a + 2) = some (.inl (G.2.2.2.1 0, 9, .inl (A 2))) := hB 2 (by decide)
theorem txb_3 (hB : Blk h a 11 (txE G a I A N)) : h.1 (a + 3) = some (.inl (G.2.2.2.1 0, 9, .inl (A 3))) := hB 3 (by decide)
theorem txb_4 (hB : Blk h a 11 (txE G a I A N)) : h.1 (a + 4) = some (.inl (G.2.2.2.1 2, 9, .inr (.inl (N 4)))) := hB 4 (by decide)
theorem txb_5 (hB : Blk h a 11 (txE G a I A N)) : h.1 (a + 5) = some (.inl (G.2.2.2.1 0, 6, .inl (A 5))) := hB 5 (by decide)
theorem txb_6 (hB : Blk h a 11 (txE G a I A N)) : h.1 (a + 6) = some (.inl (G.2.2.2.1 2, 6, .inr (.inl (N 6)))) := hB 6 (by decide)
theorem txb_7 (hB : Blk h a 11 (txE G a I A N)) : h.1 (a + 7) = some (.inl (G.2.2.2.1 0, 5, .inl (A 7))) := hB 7 (by decide)
theorem txb_8 (hB : Blk h a 11 (txE G a I A N)) : h.1 (a + 8) = some (.inl (G.2.2.2.1 2, 5, .inr (.inl (N 8)))) := hB 8 (by decide)
theorem txb_9 (hB : Blk h a 11 (txE G a I A N)) : h.1 (a + 9) = some (.inl (G.2.2.2.1 0, 4, .inl (A 9))) := hB 9 (by decide)
theorem txb_10 (hB : Blk h a 11 (txE G a I A N)) : h.1 (a + 10) = some (.inl (G.2.2.2.1 0, 54, .inl (A 10))) := hB 10 (by decide)
theorem tx_self (hB : Blk h a 11 (txE G a I A N)) : txH G a I A N h = h := ovl_self hB
end BBtx
section BBse
variable {G : iG} {a : Nat} {I : Nat → Int32} {A : Nat → Nat → Int32} {h : iH}
theorem seb_o (hB : Blk h a 5 (seE G a I A)) : h.1 a = some (.inr (6, seFs a I)) := hB 0 (by decide)
theorem seb_1 (hB : Blk h a 5 (seE G a I A)) : h.1 (a + 1) = some (.inl (G.2.2.2.1 0, 40, .inl (A 1))) := hB 1 (by decide)
theorem seb_2 (hB : Blk h a 5 (seE G a I A)) : h.1 (a + 2) = some (.inl (G.2.2.2.1 0, 40, .inl (A 2))) := hB 2 (by decide)
theorem seb_3 (hB : Blk h a 5 (seE G a I A)) : h.1 (a + 3) = some (.inl (G.2.2.2.1 0, 40, .inl (A 3))) := hB 3 (by decide)
theorem seb_4 (hB : Blk h a 5 (seE G a I A)) : h.1 (a + 4) = some (.inl (G.2.2.2.1 0, 40, .inl (A 4))) := hB 4 (by decide)
theorem se_self (hB : Blk h a 5 (seE G a I A)) : seH G a I A h = h := ovl_self hB
end BBse
section BBpn
variable {G : iG} {a : Nat} {I : Nat → Int32} {A : Nat → Nat → Int32} {h : iH}
theorem pnb_o (hB : Blk h a 4 (pnE G a I A)) : h.1 a = some (.inr (4, pnFs a I)) := hB 0 (by decide)
theorem pnb_1 (hB : Blk h a 4 (pnE G a I A)) : h.1 (a + 1) = some (.inl (G.2.2.2.1 0, 4, .inl (A 1))) := hB 1 (by decide)
theorem pnb_2 (hB : Blk h a 4 (pnE G a I A)) : h.1 (a + 2) = some (.inl (G.2.2.2.1 0, 4, .inl (A 2))) := hB 2 (by decide)
theorem pnb_3 (hB : Blk h a 4 (pnE G a I A)) : h.1 (a + 3) = some (.inl (G.2.2.2.1 0, 4, .inl (A 3))) := hB 3 (by decide)
theorem pn_self (hB : Blk h a 4 (pnE G a I A)) : pnH G a I A h = h := ovl_self hB
end BBpn
section BBtr
variable {G : iG} {a : Nat} {I : Nat → Int32} {A : Nat → Nat → Int32} {h : iH}
theorem trb_o (hB : Blk h a 5 (trE G a I A)) : h.1 a = some (.inr (9, trFs a I)) := hB 0 (by decide)
theorem trb_1 (hB : Blk h a 5 (trE G a I A)) : h.1 (a + 1) = some (.inl (G.2.2.2.1 0, 4, .inl (A 1))) := hB 1 (by decide)
theorem trb_2 (hB : Blk h a 5 (trE G a I A)) : h.1 (a + 2) = some (.inl (G.2.2.2.1 0, 4, .inl (A 2))) := hB 2 (by decide)
theorem trb_3 (hB : Blk h a 5 (trE G a I A)) : h.1 (a + 3) = some (.inl (G.2.2.2.1 0, 36, .inl (A 3))) := hB 3 (by decide)
theorem trb_4 (hB : Blk h a 5 (trE G a I A)) : h.1 (a + 4) = some (.inl (G.2.2.2.1 0, 4, .inl (A 4))) := hB 4 (by decide)
theorem tr_self (hB : Blk h a 5 (trE G a I A)) : trH G a I A h = h := ovl_self hB
end BBtr
section BBbg
variable {G : iG} {a : Nat} {I : Nat → Int32} {A : Nat → Nat → Int32} {h : iH}
theorem bgb_o (hB : Blk h a 4 (bgE G a I A)) : h.1 a = some (.inr (0, bgFs a I)) := hB 0 (by decide)
theorem bgb_1 (hB : Blk h a 4 (bgE G a I A)) : h.1 (a + 1) = some (.inl (G.2.2.2.1 0, 9, .inl (A 1))) := hB 1 (by decide)
theorem bgb_2 (hB : Blk h a 4 (bgE G a I A)) : h.1 (a + 2) = some (.inl (G.2.2.2.1 0, 6, .inl (A 2))) := hB 2 (by decide)
theorem bgb_3 (hB : Blk h a 4 (bgE G a I A)) : h.1 (a + 3) = some (.inl (G.2.2.2.1 0, 6, .inl (A 3))) := hB 3 (by decide)
theorem bg_self (hB : Blk h a 4 (bgE G a I A)) : bgH G a I A h = h := ovl_self hB
end BBbg
section BBbo
variable {G : iG} {a : Nat} {I : Nat → Int32} {A : Nat → Nat → Int32} {h : iH}
theorem bob_o (hB : Blk h a 4 (boE G a I A)) : h.1 a = some (.inr (1, boFs a I)) := hB 0 (by decide)
theorem bob_1 (hB : Blk h a 4 (boE G a I A)) : h.1 (a + 1) = some (.inl (G.2.2.2.1 0, 40, .inl (A 1))) := hB 1 (by decide)
theorem bob_2 (hB : Blk h a 4 (boE G a I A)) : h.1 (a + 2) = some (.inl (G.2.2.2.1 0, 40, .inl (A 2))) := hB 2 (by decide)
theorem bob_3 (hB : Blk h a 4 (boE G a I A)) : h.1 (a + 3) = some (.inl (G.2.2.2.1 0, 40, .inl (A 3))) := hB 3 (by decide)
theorem bo_self (hB : Blk h a 4 (boE G a I A)) : boH G a I A h = h := ovl_self hB
end BBbo
section BBrd
variable {G : iG} {a : Nat} {I : Nat → Int32} {A : Nat → Nat → Int32} {N : Nat → Nat → Int64} {R : Nat → Nat → Option Nat} {h : iH}
theorem rdb_o (hB : Blk h a 5 (rdE G a I A N R)) : h.1 a = some (.inr (5, rdFs a I)) := hB 0 (by decide)
theorem rdb_1 (hB : Blk h a 5 (rdE G a I A N R)) : h.1 (a + 1) = some (.inl (G.2.2.2.1 0, 941, .inl (A 1))) := hB 1 (by decide)
theorem rdb_2 (hB : Blk h a 5 (rdE G a I A N R)) : h.1 (a + 2) = some (.inl (G.2.2.2.1 0, 941, .inl (A 2))) := hB 2 (by decide)
theorem rdb_3 (hB : Blk h a 5 (rdE G a I A N R)) : h.1 (a + 3) = some (.inl (G.2.2.2.1 2, 941, .inr (.inl (N 3)))) := hB 3 (by decide)
theorem rdb_4 (hB : Blk h a 5 (rdE G a I A N R)) : h.1 (a + 4) = some (.inl (G.2.2.2.1 4, 941, .inr (.inr (.inr (.inr (R 4)))))) := hB 4 (by decide)
theorem rd_self (hB : Blk h a 5 (rdE G a I A N R)) : rdH G a I A N R h = h := ovl_self hB
end BBrd
section BBhi
variable {G : iG} {a : Nat} {I : Nat → Int32} {R : Nat → Nat → Option Nat} {h : iH}
theorem hib_o (hB : Blk h a 2 (hiE G a I R)) : h.1 a = some (.inr (2, hiFs a I)) := hB 0 (by decide)
theorem hib_1 (hB : Blk h a 2 (hiE G a I R)) : h.1 (a + 1) = some (.inl (G.2.2.2.1 5, 8, .inr (.inr (.inr (.inr (R 1)))))) := hB 1 (by decide)
theorem hi_self (hB : Blk h a 2 (hiE G a I R)) : hiH G a I R h = h := ovl_self hB
end BBhi
section BBst
variable {G : iG} {a n : Nat} {s w : Nat → Int32} {h : iH}
theorem sb_o (hB : Blk h a 7 (stE G a n s w)) : h.1 a = some (.inr (7, stFs a s)) := hB 0 (by decide)
theorem sb_1 (hB : Blk h a 7 (stE G a n s w)) : h.1 (a + 1) = some (.inl (G.2.2.2.1 0, 6, .inl (sPl s))) := hB 1 (by decide)
theorem sb_2 (hB : Blk h a 7 (stE G a n s w)) : h.1 (a + 2) = some (.inl (G.2.2.2.1 0, 6, .inl (sWt n s w))) := hB 2 (by decide)
theorem sb_3 (hB : Blk h a 7 (stE G a n s w)) : h.1 (a + 3) = some (.inl (G.2.2.2.1 0, 6, .inl (sAg s))) := hB 3 (by decide)
theorem sb_4 (hB : Blk h a 7 (stE G a n s w)) : h.1 (a + 4) = some (.inl (G.2.2.2.1 0, 6, .inl (sSh s))) := hB 4 (by decide)
theorem sb_5 (hB : Blk h a 7 (stE G a n s w)) : h.1 (a + 5) = some (.inl (G.2.2.2.1 0, 6, .inl (sFa s))) := hB 5 (by decide)
theorem sb_6 (hB : Blk h a 7 (stE G a n s w)) : h.1 (a + 6) = some (.inl (G.2.2.2.1 0, 24, .inl (sGi s))) := hB 6 (by decide)
theorem st_self (hB : Blk h a 7 (stE G a n s w)) : stH G a n s w h = h := ovl_self hB
end BBst
