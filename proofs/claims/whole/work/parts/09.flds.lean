def iflT0 : List ((String × Nat) × (Nat × Nat)) := [((RX5, 9), (5, 0)), ((RX5, 15), (5, 1)), ((RX5, 18), (5, 2)), ((RX5, 24), (5, 3)), ((RX5, 28), (5, 4)), ((RX5, 32), (5, 5)), ((RX5, 41), (5, 6)), ((RX5, 35), (5, 7)), ((RX11, 123), (5, 7)), ((RX5, 38), (5, 8)), ((RX11, 128), (5, 8)), ((RX8, 9), (8, 0)), ((RX4, 60), (8, 0)), ((RX9, 52), (8, 0)), ((RX0, 54), (8, 0)), ((RX11, 145), (8, 0)), ((RX7, 157), (8, 0)), ((RX8, 15), (8, 1)), ((RX4, 63), (8, 1)), ((RX9, 57), (8, 1)), ((RX0, 57), (8, 1)), ((RX11, 187), (8, 1)), ((RX7, 136), (8, 1)), ((RX8, 19), (8, 2)), ((RX4, 37), (8, 2)), ((RX9, 60), (8, 2)), ((RX0, 60), (8, 2)), ((RX11, 190), (8, 2)), ((RX7, 139), (8, 2)), ((RX8, 22), (8, 3))]
theorem iflT0_ok : ∀ e ∈ iflT0, iFd e.1.1 e.1.2 e.2.1 e.2.2 := List.forall_mem_cons.mpr ⟨f_RX5_9, List.forall_mem_cons.mpr ⟨f_RX5_15, List.forall_mem_cons.mpr ⟨f_RX5_18, List.forall_mem_cons.mpr ⟨f_RX5_24, List.forall_mem_cons.mpr ⟨f_RX5_28, List.forall_mem_cons.mpr ⟨f_RX5_32, List.forall_mem_cons.mpr ⟨f_RX5_41, List.forall_mem_cons.mpr ⟨f_RX5_35, List.forall_mem_cons.mpr ⟨f_RX11_123, List.forall_mem_cons.mpr ⟨f_RX5_38, List.forall_mem_cons.mpr ⟨f_RX11_128, List.forall_mem_cons.mpr ⟨f_RX8_9, List.forall_mem_cons.mpr ⟨f_RX4_60, List.forall_mem_cons.mpr ⟨f_RX9_52, List.forall_mem_cons.mpr ⟨f_RX0_54, List.forall_mem_cons.mpr ⟨f_RX11_145, List.forall_mem_cons.mpr ⟨f_RX7_157, List.forall_mem_cons.mpr ⟨f_RX8_15, List.forall_mem_cons.mpr ⟨f_RX4_63, List.forall_mem_cons.mpr ⟨f_RX9_57, List.forall_mem_cons.mpr ⟨f_RX0_57, List.forall_mem_cons.mpr ⟨f_RX11_187, List.forall_mem_cons.mpr ⟨f_RX7_136, List.forall_mem_cons.mpr ⟨f_RX8_19, List.forall_mem_cons.mpr ⟨f_RX4_37, List.forall_mem_cons.mpr ⟨f_RX9_60, List.forall_mem_cons.mpr ⟨f_RX0_60, List.forall_mem_cons.mpr ⟨f_RX11_190, List.forall_mem_cons.mpr ⟨f_RX7_139, List.forall_mem_cons.mpr ⟨f_RX8_22, fun _ h => absurd h List.not_mem_nil⟩⟩⟩⟩⟩⟩⟩⟩⟩⟩⟩⟩⟩⟩⟩⟩⟩⟩⟩⟩⟩⟩⟩⟩⟩⟩⟩⟩⟩⟩
def iflT1 : List ((String × Nat) × (Nat × Nat)) := [((RX11, 193), (8, 3)), ((RX7, 142), (8, 3)), ((RX8, 25), (8, 4)), ((RX11, 336), (8, 4)), ((RX8, 29), (8, 5)), ((RX0, 31), (8, 5)), ((RX11, 142), (8, 5)), ((RX7, 79), (8, 5)), ((RX8, 32), (8, 6)), ((RX7, 52), (8, 6)), ((RX8, 35), (8, 7)), ((RX11, 320), (8, 7)), ((RX8, 38), (8, 8)), ((RX11, 148), (8, 8)), ((RX8, 41), (8, 9)), ((RX11, 202), (8, 9)), ((RX8, 44), (8, 10)), ((RX8, 47), (8, 11)), ((RX4, 46), (8, 11)), ((RX7, 76), (8, 11)), ((RX11, 208), (8, 11)), ((RX8, 50), (8, 12)), ((RX8, 53), (8, 13)), ((RX7, 119), (8, 13)), ((RX11, 310), (8, 13)), ((RX8, 56), (8, 14)), ((RX7, 145), (8, 14)), ((RX11, 415), (8, 14)), ((RX7, 9), (7, 0)), ((RX4, 53), (7, 0))]
theorem iflT1_ok : ∀ e ∈ iflT1, iFd e.1.1 e.1.2 e.2.1 e.2.2 := List.forall_mem_cons.mpr ⟨f_RX11_193, List.forall_mem_cons.mpr ⟨f_RX7_142, List.forall_mem_cons.mpr ⟨f_RX8_25, List.forall_mem_cons.mpr ⟨f_RX11_336, List.forall_mem_cons.mpr ⟨f_RX8_29, List.forall_mem_cons.mpr ⟨f_RX0_31, List.forall_mem_cons.mpr ⟨f_RX11_142, List.forall_mem_cons.mpr ⟨f_RX7_79, List.forall_mem_cons.mpr ⟨f_RX8_32, List.forall_mem_cons.mpr ⟨f_RX7_52, List.forall_mem_cons.mpr ⟨f_RX8_35, List.forall_mem_cons.mpr ⟨f_RX11_320, List.forall_mem_cons.mpr ⟨f_RX8_38, List.forall_mem_cons.mpr ⟨f_RX11_148, List.forall_mem_cons.mpr ⟨f_RX8_41, List.forall_mem_cons.mpr ⟨f_RX11_202, List.forall_mem_cons.mpr ⟨f_RX8_44, List.forall_mem_cons.mpr ⟨f_RX8_47, List.forall_mem_cons.mpr ⟨f_RX4_46, List.forall_mem_cons.mpr ⟨f_RX7_76, List.forall_mem_cons.mpr ⟨f_RX11_208, List.forall_mem_cons.mpr ⟨f_RX8_50, List.forall_mem_cons.mpr ⟨f_RX8_53, List.forall_mem_cons.mpr ⟨f_RX7_119, List.forall_mem_cons.mpr ⟨f_RX11_310, List.forall_mem_cons.mpr ⟨f_RX8_56, List.forall_mem_cons.mpr ⟨f_RX7_145, List.forall_mem_cons.mpr ⟨f_RX11_415, List.forall_mem_cons.mpr ⟨f_RX7_9, List.forall_mem_cons.mpr ⟨f_RX4_53, fun _ h => absurd h List.not_mem_nil⟩⟩⟩⟩⟩⟩⟩⟩⟩⟩⟩⟩⟩⟩⟩⟩⟩⟩⟩⟩⟩⟩⟩⟩⟩⟩⟩⟩⟩⟩
def iflT2 : List ((String × Nat) × (Nat × Nat)) := [((RX0, 37), (7, 0)), ((RX6, 141), (7, 0)), ((RX11, 158), (7, 0)), ((RX7, 15), (7, 1)), ((RX11, 161), (7, 1)), ((RX6, 161), (7, 1)), ((RX7, 18), (7, 2)), ((RX11, 164), (7, 2)), ((RX7, 21), (7, 3)), ((RX11, 167), (7, 3)), ((RX6, 164), (7, 3)), ((RX7, 24), (7, 4)), ((RX11, 170), (7, 4)), ((RX6, 167), (7, 4)), ((RX7, 27), (7, 5)), ((RX7, 30), (7, 6)), ((RX7, 34), (7, 7)), ((RX11, 214), (7, 7)), ((RX7, 37), (7, 8)), ((RX11, 217), (7, 8)), ((RX7, 40), (7, 9)), ((RX11, 233), (7, 9)), ((RX7, 43), (7, 10)), ((RX1, 122), (7, 10)), ((RX11, 211), (7, 10)), ((RX6, 11), (6, 0)), ((RX6, 15), (6, 1)), ((RX6, 18), (6, 2)), ((RX6, 21), (6, 3)), ((RX6, 24), (6, 4))]
theorem iflT2_ok : ∀ e ∈ iflT2, iFd e.1.1 e.1.2 e.2.1 e.2.2 := List.forall_mem_cons.mpr ⟨f_RX0_37, List.forall_mem_cons.mpr ⟨f_RX6_141, List.forall_mem_cons.mpr ⟨f_RX11_158, List.forall_mem_cons.mpr ⟨f_RX7_15, List.forall_mem_cons.mpr ⟨f_RX11_161, List.forall_mem_cons.mpr ⟨f_RX6_161, List.forall_mem_cons.mpr ⟨f_RX7_18, List.forall_mem_cons.mpr ⟨f_RX11_164, List.forall_mem_cons.mpr ⟨f_RX7_21, List.forall_mem_cons.mpr ⟨f_RX11_167, List.forall_mem_cons.mpr ⟨f_RX6_164, List.forall_mem_cons.mpr ⟨f_RX7_24, List.forall_mem_cons.mpr ⟨f_RX11_170, List.forall_mem_cons.mpr ⟨f_RX6_167, List.forall_mem_cons.mpr ⟨f_RX7_27, List.forall_mem_cons.mpr ⟨f_RX7_30, List.forall_mem_cons.mpr ⟨f_RX7_34, List.forall_mem_cons.mpr ⟨f_RX11_214, List.forall_mem_cons.mpr ⟨f_RX7_37, List.forall_mem_cons.mpr ⟨f_RX11_217, List.forall_mem_cons.mpr ⟨f_RX7_40, List.forall_mem_cons.mpr ⟨f_RX11_233, List.forall_mem_cons.mpr ⟨f_RX7_43, List.forall_mem_cons.mpr ⟨f_RX1_122, List.forall_mem_cons.mpr ⟨f_RX11_211, List.forall_mem_cons.mpr ⟨f_RX6_11, List.forall_mem_cons.mpr ⟨f_RX6_15, List.forall_mem_cons.mpr ⟨f_RX6_18, List.forall_mem_cons.mpr ⟨f_RX6_21, List.forall_mem_cons.mpr ⟨f_RX6_24, fun _ h => absurd h List.not_mem_nil⟩⟩⟩⟩⟩⟩⟩⟩⟩⟩⟩⟩⟩⟩⟩⟩⟩⟩⟩⟩⟩⟩⟩⟩⟩⟩⟩⟩⟩⟩
def iflT3 : List ((String × Nat) × (Nat × Nat)) := [((RX11, 399), (6, 4)), ((RX6, 28), (6, 5)), ((RX11, 396), (6, 5)), ((RX2, 11), (2, 0)), ((RX2, 15), (2, 1)), ((RX2, 19), (2, 2)), ((RX11, 261), (2, 2)), ((RX3, 10), (3, 0)), ((RX3, 19), (3, 1)), ((RX3, 26), (3, 2)), ((RX3, 30), (3, 3)), ((RX11, 408), (3, 3)), ((RX4, 9), (4, 0)), ((RX4, 15), (4, 1)), ((RX4, 18), (4, 2)), ((RX11, 276), (4, 2)), ((RX4, 21), (4, 3)), ((RX11, 273), (4, 3)), ((RX4, 25), (4, 4)), ((RX11, 279), (4, 4)), ((RX9, 9), (9, 0)), ((RX9, 15), (9, 1)), ((RX9, 18), (9, 2)), ((RX9, 21), (9, 3)), ((RX9, 25), (9, 4)), ((RX11, 289), (9, 4)), ((RX9, 28), (9, 5)), ((RX11, 286), (9, 5)), ((RX9, 31), (9, 6)), ((RX11, 292), (9, 6))]
theorem iflT3_ok : ∀ e ∈ iflT3, iFd e.1.1 e.1.2 e.2.1 e.2.2 := List.forall_mem_cons.mpr ⟨f_RX11_399, List.forall_mem_cons.mpr ⟨f_RX6_28, List.forall_mem_cons.mpr ⟨f_RX11_396, List.forall_mem_cons.mpr ⟨f_RX2_11, List.forall_mem_cons.mpr ⟨f_RX2_15, List.forall_mem_cons.mpr ⟨f_RX2_19, List.forall_mem_cons.mpr ⟨f_RX11_261, List.forall_mem_cons.mpr ⟨f_RX3_10, List.forall_mem_cons.mpr ⟨f_RX3_19, List.forall_mem_cons.mpr ⟨f_RX3_26, List.forall_mem_cons.mpr ⟨f_RX3_30, List.forall_mem_cons.mpr ⟨f_RX11_408, List.forall_mem_cons.mpr ⟨f_RX4_9, List.forall_mem_cons.mpr ⟨f_RX4_15, List.forall_mem_cons.mpr ⟨f_RX4_18, List.forall_mem_cons.mpr ⟨f_RX11_276, List.forall_mem_cons.mpr ⟨f_RX4_21, List.forall_mem_cons.mpr ⟨f_RX11_273, List.forall_mem_cons.mpr ⟨f_RX4_25, List.forall_mem_cons.mpr ⟨f_RX11_279, List.forall_mem_cons.mpr ⟨f_RX9_9, List.forall_mem_cons.mpr ⟨f_RX9_15, List.forall_mem_cons.mpr ⟨f_RX9_18, List.forall_mem_cons.mpr ⟨f_RX9_21, List.forall_mem_cons.mpr ⟨f_RX9_25, List.forall_mem_cons.mpr ⟨f_RX11_289, List.forall_mem_cons.mpr ⟨f_RX9_28, List.forall_mem_cons.mpr ⟨f_RX11_286, List.forall_mem_cons.mpr ⟨f_RX9_31, List.forall_mem_cons.mpr ⟨f_RX11_292, fun _ h => absurd h List.not_mem_nil⟩⟩⟩⟩⟩⟩⟩⟩⟩⟩⟩⟩⟩⟩⟩⟩⟩⟩⟩⟩⟩⟩⟩⟩⟩⟩⟩⟩⟩⟩
def iflT4 : List ((String × Nat) × (Nat × Nat)) := [((RX0, 9), (0, 0)), ((RX0, 15), (0, 1)), ((RX0, 18), (0, 2)), ((RX11, 317), (0, 2)), ((RX1, 11), (1, 0)), ((RX1, 15), (1, 1)), ((RX1, 18), (1, 2)), ((RX1, 21), (1, 3)), ((RX1, 25), (1, 4)), ((RX11, 383), (1, 4)), ((RX1, 28), (1, 5)), ((RX11, 380), (1, 5)), ((RX1, 31), (1, 6)), ((RX11, 386), (1, 6)), ((RX1, 34), (1, 7)), ((RX11, 389), (1, 7)), ((RX11, 9), (10, 0)), ((RX11, 13), (10, 1)), ((RX11, 20), (10, 2)), ((RX11, 24), (10, 3)), ((RX11, 30), (10, 4)), ((RX11, 34), (10, 5)), ((RX11, 40), (10, 6)), ((RX11, 44), (10, 7)), ((RX11, 50), (10, 8)), ((RX11, 54), (10, 9)), ((RX11, 60), (10, 10)), ((RX11, 67), (10, 11)), ((RX11, 74), (10, 12)), ((RX11, 81), (10, 13))]
theorem iflT4_ok : ∀ e ∈ iflT4, iFd e.1.1 e.1.2 e.2.1 e.2.2 := List.forall_mem_cons.mpr ⟨f_RX0_9, List.forall_mem_cons.mpr ⟨f_RX0_15, List.forall_mem_cons.mpr ⟨f_RX0_18, List.forall_mem_cons.mpr ⟨f_RX11_317, List.forall_mem_cons.mpr ⟨f_RX1_11, List.forall_mem_cons.mpr ⟨f_RX1_15, List.forall_mem_cons.mpr ⟨f_RX1_18, List.forall_mem_cons.mpr ⟨f_RX1_21, List.forall_mem_cons.mpr ⟨f_RX1_25, List.forall_mem_cons.mpr ⟨f_RX11_383, List.forall_mem_cons.mpr ⟨f_RX1_28, List.forall_mem_cons.mpr ⟨f_RX11_380, List.forall_mem_cons.mpr ⟨f_RX1_31, List.forall_mem_cons.mpr ⟨f_RX11_386, List.forall_mem_cons.mpr ⟨f_RX1_34, List.forall_mem_cons.mpr ⟨f_RX11_389, List.forall_mem_cons.mpr ⟨f_RX11_9, List.forall_mem_cons.mpr ⟨f_RX11_13, List.forall_mem_cons.mpr ⟨f_RX11_20, List.forall_mem_cons.mpr ⟨f_RX11_24, List.forall_mem_cons.mpr ⟨f_RX11_30, List.forall_mem_cons.mpr ⟨f_RX11_34, List.forall_mem_cons.mpr ⟨f_RX11_40, List.forall_mem_cons.mpr ⟨f_RX11_44, List.forall_mem_cons.mpr ⟨f_RX11_50, List.forall_mem_cons.mpr ⟨f_RX11_54, List.forall_mem_cons.mpr ⟨f_RX11_60, List.forall_mem_cons.mpr ⟨f_RX11_67, List.forall_mem_cons.mpr ⟨f_RX11_74, List.forall_mem_cons.mpr ⟨f_RX11_81, fun _ h => absurd h List.not_mem_nil⟩⟩⟩⟩⟩⟩⟩⟩⟩⟩⟩⟩⟩⟩⟩⟩⟩⟩⟩⟩⟩⟩⟩⟩⟩⟩⟩⟩⟩⟩
def iflT5 : List ((String × Nat) × (Nat × Nat)) := [((RX11, 88), (10, 14)), ((RX11, 95), (10, 15)), ((RX11, 99), (10, 16)), ((RX11, 102), (10, 17)), ((RX11, 105), (10, 18)), ((RX12, 1), (11, 0)), ((RX12, 14), (11, 1)), ((RX12, 7), (11, 2)), ((RX12, 18), (11, 3)), ((RX12, 21), (11, 4)), ((RX12, 24), (11, 5)), ((RX12, 33), (11, 6)), ((RX12, 37), (11, 7)), ((RX12, 40), (11, 8)), ((RX12, 43), (11, 9)), ((RX12, 47), (11, 10)), ((RX12, 189), (11, 11)), ((RX12, 183), (11, 12)), ((RX12, 186), (11, 13)), ((RX12, 199), (11, 14)), ((RX12, 206), (11, 15)), ((RX12, 209), (11, 16)), ((RX12, 202), (11, 17)), ((RX12, 225), (11, 18)), ((RX12, 284), (11, 19)), ((RX12, 253), (11, 20)), ((RX12, 50), (11, 21)), ((RX12, 53), (11, 22)), ((RX12, 293), (11, 23)), ((RX12, 56), (11, 24))]
theorem iflT5_ok : ∀ e ∈ iflT5, iFd e.1.1 e.1.2 e.2.1 e.2.2 := List.forall_mem_cons.mpr ⟨f_RX11_88, List.forall_mem_cons.mpr ⟨f_RX11_95, List.forall_mem_cons.mpr ⟨f_RX11_99, List.forall_mem_cons.mpr ⟨f_RX11_102, List.forall_mem_cons.mpr ⟨f_RX11_105, List.forall_mem_cons.mpr ⟨f_RX12_1, List.forall_mem_cons.mpr ⟨f_RX12_14, List.forall_mem_cons.mpr ⟨f_RX12_7, List.forall_mem_cons.mpr ⟨f_RX12_18, List.forall_mem_cons.mpr ⟨f_RX12_21, List.forall_mem_cons.mpr ⟨f_RX12_24, List.forall_mem_cons.mpr ⟨f_RX12_33, List.forall_mem_cons.mpr ⟨f_RX12_37, List.forall_mem_cons.mpr ⟨f_RX12_40, List.forall_mem_cons.mpr ⟨f_RX12_43, List.forall_mem_cons.mpr ⟨f_RX12_47, List.forall_mem_cons.mpr ⟨f_RX12_189, List.forall_mem_cons.mpr ⟨f_RX12_183, List.forall_mem_cons.mpr ⟨f_RX12_186, List.forall_mem_cons.mpr ⟨f_RX12_199, List.forall_mem_cons.mpr ⟨f_RX12_206, List.forall_mem_cons.mpr ⟨f_RX12_209, List.forall_mem_cons.mpr ⟨f_RX12_202, List.forall_mem_cons.mpr ⟨f_RX12_225, List.forall_mem_cons.mpr ⟨f_RX12_284, List.forall_mem_cons.mpr ⟨f_RX12_253, List.forall_mem_cons.mpr ⟨f_RX12_50, List.forall_mem_cons.mpr ⟨f_RX12_53, List.forall_mem_cons.mpr ⟨f_RX12_293, List.forall_mem_cons.mpr ⟨f_RX12_56, fun _ h => absurd h List.not_mem_nil⟩⟩⟩⟩⟩⟩⟩⟩⟩⟩⟩⟩⟩⟩⟩⟩⟩⟩⟩⟩⟩⟩⟩⟩⟩⟩⟩⟩⟩⟩
def iflT6 : List ((String × Nat) × (Nat × Nat)) := [((RX12, 59), (11, 25)), ((RX12, 62), (11, 26)), ((RX12, 65), (11, 27)), ((RX12, 68), (11, 28)), ((RX12, 71), (11, 29)), ((RX12, 74), (11, 30)), ((RX12, 77), (11, 31)), ((RX12, 80), (11, 32)), ((RX12, 412), (11, 33)), ((RX12, 408), (11, 34)), ((RX12, 83), (11, 35)), ((RX12, 86), (11, 36)), ((RX12, 89), (11, 37)), ((RX12, 92), (11, 38)), ((RX12, 427), (11, 39)), ((RX12, 444), (11, 40)), ((RX12, 454), (11, 41)), ((RX12, 95), (11, 42)), ((RX12, 466), (11, 43)), ((RX12, 98), (11, 44)), ((RX12, 469), (11, 45)), ((RX12, 484), (11, 46)), ((RX12, 472), (11, 47)), ((RX12, 478), (11, 48)), ((RX12, 487), (11, 49)), ((RX12, 101), (11, 50)), ((RX12, 105), (11, 51)), ((RX12, 108), (11, 52)), ((RX12, 111), (11, 53))]
theorem iflT6_ok : ∀ e ∈ iflT6, iFd e.1.1 e.1.2 e.2.1 e.2.2 := List.forall_mem_cons.mpr ⟨f_RX12_59, List.forall_mem_cons.mpr ⟨f_RX12_62, List.forall_mem_cons.mpr ⟨f_RX12_65, List.forall_mem_cons.mpr ⟨f_RX12_68, List.forall_mem_cons.mpr ⟨f_RX12_71, List.forall_mem_cons.mpr ⟨f_RX12_74, List.forall_mem_cons.mpr ⟨f_RX12_77, List.forall_mem_cons.mpr ⟨f_RX12_80, List.forall_mem_cons.mpr ⟨f_RX12_412, List.forall_mem_cons.mpr ⟨f_RX12_408, List.forall_mem_cons.mpr ⟨f_RX12_83, List.forall_mem_cons.mpr ⟨f_RX12_86, List.forall_mem_cons.mpr ⟨f_RX12_89, List.forall_mem_cons.mpr ⟨f_RX12_92, List.forall_mem_cons.mpr ⟨f_RX12_427, List.forall_mem_cons.mpr ⟨f_RX12_444, List.forall_mem_cons.mpr ⟨f_RX12_454, List.forall_mem_cons.mpr ⟨f_RX12_95, List.forall_mem_cons.mpr ⟨f_RX12_466, List.forall_mem_cons.mpr ⟨f_RX12_98, List.forall_mem_cons.mpr ⟨f_RX12_469, List.forall_mem_cons.mpr ⟨f_RX12_484, List.forall_mem_cons.mpr ⟨f_RX12_472, List.forall_mem_cons.mpr ⟨f_RX12_478, List.forall_mem_cons.mpr ⟨f_RX12_487, List.forall_mem_cons.mpr ⟨f_RX12_101, List.forall_mem_cons.mpr ⟨f_RX12_105, List.forall_mem_cons.mpr ⟨f_RX12_108, List.forall_mem_cons.mpr ⟨f_RX12_111, fun _ h => absurd h List.not_mem_nil⟩⟩⟩⟩⟩⟩⟩⟩⟩⟩⟩⟩⟩⟩⟩⟩⟩⟩⟩⟩⟩⟩⟩⟩⟩⟩⟩⟩⟩
def iflT : List ((String × Nat) × (Nat × Nat)) := iflT0 ++ (iflT1 ++ (iflT2 ++ (iflT3 ++ (iflT4 ++ (iflT5 ++ (iflT6))))))
def ifl (s : String) (i : Nat) : Option (Nat × Nat) := iflT.lookup (s, i)
theorem iflT_ok : ∀ e ∈ iflT, iFd e.1.1 e.1.2 e.2.1 e.2.2 := List.forall_mem_append.mpr ⟨iflT0_ok, List.forall_mem_append.mpr ⟨iflT1_ok, List.forall_mem_append.mpr ⟨iflT2_ok, List.forall_mem_append.mpr ⟨iflT3_ok, List.forall_mem_append.mpr ⟨iflT4_ok, List.forall_mem_append.mpr ⟨iflT5_ok, iflT6_ok⟩⟩⟩⟩⟩⟩
theorem ifl_mem {k : String × Nat} {v : Nat × Nat} : ∀ {l : List ((String × Nat) × (Nat × Nat))}, l.lookup k = some v → (k, v) ∈ l
  | [], h => by cases h
  | (a, b) :: l, h => by
    rw [List.lookup_cons] at h
    cases hk : (k == a) with
    | true =>
      rw [hk] at h
      cases h
      rw [eq_of_beq hk]
      exact List.mem_cons_self
    | false =>
      rw [hk] at h
      exact List.mem_cons_of_mem _ (ifl_mem h)
theorem ifl_ok {s : String} {i ci n : Nat} (h : ifl s i = some (ci, n)) : iFd s i ci n := iflT_ok _ (ifl_mem h)
theorem g_RX5_9 : ifl RX5 9 = some (5, 0) := by decide +kernel
theorem g_RX5_15 : ifl RX5 15 = some (5, 1) := by decide +kernel
theorem g_RX5_18 : ifl RX5 18 = some (5, 2) := by decide +kernel
theorem g_RX5_24 : ifl RX5 24 = some (5, 3) := by decide +kernel
theorem g_RX5_28 : ifl RX5 28 = some (5, 4) := by decide +kernel
theorem g_RX5_32 : ifl RX5 32 = some (5, 5) := by decide +kernel
theorem g_RX5_41 : ifl RX5 41 = some (5, 6) := by decide +kernel
theorem g_RX5_35 : ifl RX5 35 = some (5, 7) := by decide +kernel
theorem g_RX11_123 : ifl RX11 123 = some (5, 7) := by decide +kernel
theorem g_RX5_38 : ifl RX5 38 = some (5, 8) := by decide +kernel
theorem g_RX11_128 : ifl RX11 128 = some (5, 8) := by decide +kernel
theorem g_RX8_9 : ifl RX8 9 = some (8, 0) := by decide +kernel
theorem g_RX4_60 : ifl RX4 60 = some (8, 0) := by decide +kernel
theorem g_RX9_52 : ifl RX9 52 = some (8, 0) := by decide +kernel
theorem g_RX0_54 : ifl RX0 54 = some (8, 0) := by decide +kernel
theorem g_RX11_145 : ifl RX11 145 = some (8, 0) := by decide +kernel
theorem g_RX7_157 : ifl RX7 157 = some (8, 0) := by decide +kernel
theorem g_RX8_15 : ifl RX8 15 = some (8, 1) := by decide +kernel
theorem g_RX4_63 : ifl RX4 63 = some (8, 1) := by decide +kernel
theorem g_RX9_57 : ifl RX9 57 = some (8, 1) := by decide +kernel
theorem g_RX0_57 : ifl RX0 57 = some (8, 1) := by decide +kernel
theorem g_RX11_187 : ifl RX11 187 = some (8, 1) := by decide +kernel
theorem g_RX7_136 : ifl RX7 136 = some (8, 1) := by decide +kernel
theorem g_RX8_19 : ifl RX8 19 = some (8, 2) := by decide +kernel
theorem g_RX4_37 : ifl RX4 37 = some (8, 2) := by decide +kernel
theorem g_RX9_60 : ifl RX9 60 = some (8, 2) := by decide +kernel
theorem g_RX0_60 : ifl RX0 60 = some (8, 2) := by decide +kernel
theorem g_RX11_190 : ifl RX11 190 = some (8, 2) := by decide +kernel
theorem g_RX7_139 : ifl RX7 139 = some (8, 2) := by decide +kernel
theorem g_RX8_22 : ifl RX8 22 = some (8, 3) := by decide +kernel
theorem g_RX11_193 : ifl RX11 193 = some (8, 3) := by decide +kernel
theorem g_RX7_142 : ifl RX7 142 = some (8, 3) := by decide +kernel
theorem g_RX8_25 : ifl RX8 25 = some (8, 4) := by decide +kernel
theorem g_RX11_336 : ifl RX11 336 = some (8, 4) := by decide +kernel
theorem g_RX8_29 : ifl RX8 29 = some (8, 5) := by decide +kernel
theorem g_RX0_31 : ifl RX0 31 = some (8, 5) := by decide +kernel
theorem g_RX11_142 : ifl RX11 142 = some (8, 5) := by decide +kernel
theorem g_RX7_79 : ifl RX7 79 = some (8, 5) := by decide +kernel
theorem g_RX8_32 : ifl RX8 32 = some (8, 6) := by decide +kernel
theorem g_RX7_52 : ifl RX7 52 = some (8, 6) := by decide +kernel
theorem g_RX8_35 : ifl RX8 35 = some (8, 7) := by decide +kernel
theorem g_RX11_320 : ifl RX11 320 = some (8, 7) := by decide +kernel
theorem g_RX8_38 : ifl RX8 38 = some (8, 8) := by decide +kernel
theorem g_RX11_148 : ifl RX11 148 = some (8, 8) := by decide +kernel
theorem g_RX8_41 : ifl RX8 41 = some (8, 9) := by decide +kernel
theorem g_RX11_202 : ifl RX11 202 = some (8, 9) := by decide +kernel
theorem g_RX8_44 : ifl RX8 44 = some (8, 10) := by decide +kernel
theorem g_RX8_47 : ifl RX8 47 = some (8, 11) := by decide +kernel
theorem g_RX4_46 : ifl RX4 46 = some (8, 11) := by decide +kernel
theorem g_RX7_76 : ifl RX7 76 = some (8, 11) := by decide +kernel
theorem g_RX11_208 : ifl RX11 208 = some (8, 11) := by decide +kernel
theorem g_RX8_50 : ifl RX8 50 = some (8, 12) := by decide +kernel
theorem g_RX8_53 : ifl RX8 53 = some (8, 13) := by decide +kernel
theorem g_RX7_119 : ifl RX7 119 = some (8, 13) := by decide +kernel
theorem g_RX11_310 : ifl RX11 310 = some (8, 13) := by decide +kernel
theorem g_RX8_56 : ifl RX8 56 = some (8, 14) := by decide +kernel
theorem g_RX7_145 : ifl RX7 145 = some (8, 14) := by decide +kernel
theorem g_RX11_415 : ifl RX11 415 = some (8, 14) := by decide +kernel
theorem g_RX7_9 : ifl RX7 9 = some (7, 0) := by decide +kernel
theorem g_RX4_53 : ifl RX4 53 = some (7, 0) := by decide +kernel
theorem g_RX0_37 : ifl RX0 37 = some (7, 0) := by decide +kernel
theorem g_RX6_141 : ifl RX6 141 = some (7, 0) := by decide +kernel
theorem g_RX11_158 : ifl RX11 158 = some (7, 0) := by decide +kernel
theorem g_RX7_15 : ifl RX7 15 = some (7, 1) := by decide +kernel
theorem g_RX11_161 : ifl RX11 161 = some (7, 1) := by decide +kernel
theorem g_RX6_161 : ifl RX6 161 = some (7, 1) := by decide +kernel
theorem g_RX7_18 : ifl RX7 18 = some (7, 2) := by decide +kernel
theorem g_RX11_164 : ifl RX11 164 = some (7, 2) := by decide +kernel
theorem g_RX7_21 : ifl RX7 21 = some (7, 3) := by decide +kernel
theorem g_RX11_167 : ifl RX11 167 = some (7, 3) := by decide +kernel
theorem g_RX6_164 : ifl RX6 164 = some (7, 3) := by decide +kernel
theorem g_RX7_24 : ifl RX7 24 = some (7, 4) := by decide +kernel
theorem g_RX11_170 : ifl RX11 170 = some (7, 4) := by decide +kernel
theorem g_RX6_167 : ifl RX6 167 = some (7, 4) := by decide +kernel
theorem g_RX7_27 : ifl RX7 27 = some (7, 5) := by decide +kernel
theorem g_RX7_30 : ifl RX7 30 = some (7, 6) := by decide +kernel
theorem g_RX7_34 : ifl RX7 34 = some (7, 7) := by decide +kernel
theorem g_RX11_214 : ifl RX11 214 = some (7, 7) := by decide +kernel
theorem g_RX7_37 : ifl RX7 37 = some (7, 8) := by decide +kernel
theorem g_RX11_217 : ifl RX11 217 = some (7, 8) := by decide +kernel
theorem g_RX7_40 : ifl RX7 40 = some (7, 9) := by decide +kernel
theorem g_RX11_233 : ifl RX11 233 = some (7, 9) := by decide +kernel
theorem g_RX7_43 : ifl RX7 43 = some (7, 10) := by decide +kernel
theorem g_RX1_122 : ifl RX1 122 = some (7, 10) := by decide +kernel
theorem g_RX11_211 : ifl RX11 211 = some (7, 10) := by decide +kernel
theorem g_RX6_11 : ifl RX6 11 = some (6, 0) := by decide +kernel
theorem g_RX6_15 : ifl RX6 15 = some (6, 1) := by decide +kernel
theorem g_RX6_18 : ifl RX6 18 = some (6, 2) := by decide +kernel
theorem g_RX6_21 : ifl RX6 21 = some (6, 3) := by decide +kernel
theorem g_RX6_24 : ifl RX6 24 = some (6, 4) := by decide +kernel
theorem g_RX11_399 : ifl RX11 399 = some (6, 4) := by decide +kernel
theorem g_RX6_28 : ifl RX6 28 = some (6, 5) := by decide +kernel
theorem g_RX11_396 : ifl RX11 396 = some (6, 5) := by decide +kernel
theorem g_RX2_11 : ifl RX2 11 = some (2, 0) := by decide +kernel
theorem g_RX2_15 : ifl RX2 15 = some (2, 1) := by decide +kernel
theorem g_RX2_19 : ifl RX2 19 = some (2, 2) := by decide +kernel
theorem g_RX11_261 : ifl RX11 261 = some (2, 2) := by decide +kernel
theorem g_RX3_10 : ifl RX3 10 = some (3, 0) := by decide +kernel
theorem g_RX3_19 : ifl RX3 19 = some (3, 1) := by decide +kernel
theorem g_RX3_26 : ifl RX3 26 = some (3, 2) := by decide +kernel
theorem g_RX3_30 : ifl RX3 30 = some (3, 3) := by decide +kernel
theorem g_RX11_408 : ifl RX11 408 = some (3, 3) := by decide +kernel
theorem g_RX4_9 : ifl RX4 9 = some (4, 0) := by decide +kernel
theorem g_RX4_15 : ifl RX4 15 = some (4, 1) := by decide +kernel
theorem g_RX4_18 : ifl RX4 18 = some (4, 2) := by decide +kernel
theorem g_RX11_276 : ifl RX11 276 = some (4, 2) := by decide +kernel
theorem g_RX4_21 : ifl RX4 21 = some (4, 3) := by decide +kernel
theorem g_RX11_273 : ifl RX11 273 = some (4, 3) := by decide +kernel
theorem g_RX4_25 : ifl RX4 25 = some (4, 4) := by decide +kernel
theorem g_RX11_279 : ifl RX11 279 = some (4, 4) := by decide +kernel
theorem g_RX9_9 : ifl RX9 9 = some (9, 0) := by decide +kernel
theorem g_RX9_15 : ifl RX9 15 = some (9, 1) := by decide +kernel
theorem g_RX9_18 : ifl RX9 18 = some (9, 2) := by decide +kernel
theorem g_RX9_21 : ifl RX9 21 = some (9, 3) := by decide +kernel
theorem g_RX9_25 : ifl RX9 25 = some (9, 4) := by decide +kernel
theorem g_RX11_289 : ifl RX11 289 = some (9, 4) := by decide +kernel
theorem g_RX9_28 : ifl RX9 28 = some (9, 5) := by decide +kernel
theorem g_RX11_286 : ifl RX11 286 = some (9, 5) := by decide +kernel
theorem g_RX9_31 : ifl RX9 31 = some (9, 6) := by decide +kernel
theorem g_RX11_292 : ifl RX11 292 = some (9, 6) := by decide +kernel
theorem g_RX0_9 : ifl RX0 9 = some (0, 0) := by decide +kernel
theorem g_RX0_15 : ifl RX0 15 = some (0, 1) := by decide +kernel
theorem g_RX0_18 : ifl RX0 18 = some (0, 2) := by decide +kernel
theorem g_RX11_317 : ifl RX11 317 = some (0, 2) := by decide +kernel
theorem g_RX1_11 : ifl RX1 11 = some (1, 0) := by decide +kernel
theorem g_RX1_15 : ifl RX1 15 = some (1, 1) := by decide +kernel
theorem g_RX1_18 : ifl RX1 18 = some (1, 2) := by decide +kernel
theorem g_RX1_21 : ifl RX1 21 = some (1, 3) := by decide +kernel
theorem g_RX1_25 : ifl RX1 25 = some (1, 4) := by decide +kernel
theorem g_RX11_383 : ifl RX11 383 = some (1, 4) := by decide +kernel
theorem g_RX1_28 : ifl RX1 28 = some (1, 5) := by decide +kernel
theorem g_RX11_380 : ifl RX11 380 = some (1, 5) := by decide +kernel
theorem g_RX1_31 : ifl RX1 31 = some (1, 6) := by decide +kernel
theorem g_RX11_386 : ifl RX11 386 = some (1, 6) := by decide +kernel
theorem g_RX1_34 : ifl RX1 34 = some (1, 7) := by decide +kernel
theorem g_RX11_389 : ifl RX11 389 = some (1, 7) := by decide +kernel
theorem g_RX11_9 : ifl RX11 9 = some (10, 0) := by decide +kernel
theorem g_RX11_13 : ifl RX11 13 = some (10, 1) := by decide +kernel
theorem g_RX11_20 : ifl RX11 20 = some (10, 2) := by decide +kernel
theorem g_RX11_24 : ifl RX11 24 = some (10, 3) := by decide +kernel
theorem g_RX11_30 : ifl RX11 30 = some (10, 4) := by decide +kernel
theorem g_RX11_34 : ifl RX11 34 = some (10, 5) := by decide +kernel
theorem g_RX11_40 : ifl RX11 40 = some (10, 6) := by decide +kernel
theorem g_RX11_44 : ifl RX11 44 = some (10, 7) := by decide +kernel
theorem g_RX11_50 : ifl RX11 50 = some (10, 8) := by decide +kernel
theorem g_RX11_54 : ifl RX11 54 = some (10, 9) := by decide +kernel
theorem g_RX11_60 : ifl RX11 60 = some (10, 10) := by decide +kernel
theorem g_RX11_67 : ifl RX11 67 = some (10, 11) := by decide +kernel
theorem g_RX11_74 : ifl RX11 74 = some (10, 12) := by decide +kernel
theorem g_RX11_81 : ifl RX11 81 = some (10, 13) := by decide +kernel
theorem g_RX11_88 : ifl RX11 88 = some (10, 14) := by decide +kernel
theorem g_RX11_95 : ifl RX11 95 = some (10, 15) := by decide +kernel
theorem g_RX11_99 : ifl RX11 99 = some (10, 16) := by decide +kernel
theorem g_RX11_102 : ifl RX11 102 = some (10, 17) := by decide +kernel
theorem g_RX11_105 : ifl RX11 105 = some (10, 18) := by decide +kernel
theorem g_RX12_1 : ifl RX12 1 = some (11, 0) := by decide +kernel
theorem g_RX12_14 : ifl RX12 14 = some (11, 1) := by decide +kernel
theorem g_RX12_7 : ifl RX12 7 = some (11, 2) := by decide +kernel
theorem g_RX12_18 : ifl RX12 18 = some (11, 3) := by decide +kernel
theorem g_RX12_21 : ifl RX12 21 = some (11, 4) := by decide +kernel
theorem g_RX12_24 : ifl RX12 24 = some (11, 5) := by decide +kernel
theorem g_RX12_33 : ifl RX12 33 = some (11, 6) := by decide +kernel
theorem g_RX12_37 : ifl RX12 37 = some (11, 7) := by decide +kernel
theorem g_RX12_40 : ifl RX12 40 = some (11, 8) := by decide +kernel
theorem g_RX12_43 : ifl RX12 43 = some (11, 9) := by decide +kernel
theorem g_RX12_47 : ifl RX12 47 = some (11, 10) := by decide +kernel
theorem g_RX12_189 : ifl RX12 189 = some (11, 11) := by decide +kernel
theorem g_RX12_183 : ifl RX12 183 = some (11, 12) := by decide +kernel
theorem g_RX12_186 : ifl RX12 186 = some (11, 13) := by decide +kernel
theorem g_RX12_199 : ifl RX12 199 = some (11, 14) := by decide +kernel
theorem g_RX12_206 : ifl RX12 206 = some (11, 15) := by decide +kernel
theorem g_RX12_209 : ifl RX12 209 = some (11, 16) := by decide +kernel
theorem g_RX12_202 : ifl RX12 202 = some (11, 17) := by decide +kernel
theorem g_RX12_225 : ifl RX12 225 = some (11, 18) := by decide +kernel
theorem g_RX12_284 : ifl RX12 284 = some (11, 19) := by decide +kernel
theorem g_RX12_253 : ifl RX12 253 = some (11, 20) := by decide +kernel
theorem g_RX12_50 : ifl RX12 50 = some (11, 21) := by decide +kernel
theorem g_RX12_53 : ifl RX12 53 = some (11, 22) := by decide +kernel
theorem g_RX12_293 : ifl RX12 293 = some (11, 23) := by decide +kernel
theorem g_RX12_56 : ifl RX12 56 = some (11, 24) := by decide +kernel
theorem g_RX12_59 : ifl RX12 59 = some (11, 25) := by decide +kernel
theorem g_RX12_62 : ifl RX12 62 = some (11, 26) := by decide +kernel
theorem g_RX12_65 : ifl RX12 65 = some (11, 27) := by decide +kernel
theorem g_RX12_68 : ifl RX12 68 = some (11, 28) := by decide +kernel
theorem g_RX12_71 : ifl RX12 71 = some (11, 29) := by decide +kernel
theorem g_RX12_74 : ifl RX12 74 = some (11, 30) := by decide +kernel
theorem g_RX12_77 : ifl RX12 77 = some (11, 31) := by decide +kernel
theorem g_RX12_80 : ifl RX12 80 = some (11, 32) := by decide +kernel
theorem g_RX12_412 : ifl RX12 412 = some (11, 33) := by decide +kernel
theorem g_RX12_408 : ifl RX12 408 = some (11, 34) := by decide +kernel
theorem g_RX12_83 : ifl RX12 83 = some (11, 35) := by decide +kernel
theorem g_RX12_86 : ifl RX12 86 = some (11, 36) := by decide +kernel
theorem g_RX12_89 : ifl RX12 89 = some (11, 37) := by decide +kernel
theorem g_RX12_92 : ifl RX12 92 = some (11, 38) := by decide +kernel
theorem g_RX12_427 : ifl RX12 427 = some (11, 39) := by decide +kernel
theorem g_RX12_444 : ifl RX12 444 = some (11, 40) := by decide +kernel
theorem g_RX12_454 : ifl RX12 454 = some (11, 41) := by decide +kernel
theorem g_RX12_95 : ifl RX12 95 = some (11, 42) := by decide +kernel
theorem g_RX12_466 : ifl RX12 466 = some (11, 43) := by decide +kernel
theorem g_RX12_98 : ifl RX12 98 = some (11, 44) := by decide +kernel
theorem g_RX12_469 : ifl RX12 469 = some (11, 45) := by decide +kernel
theorem g_RX12_484 : ifl RX12 484 = some (11, 46) := by decide +kernel
theorem g_RX12_472 : ifl RX12 472 = some (11, 47) := by decide +kernel
theorem g_RX12_478 : ifl RX12 478 = some (11, 48) := by decide +kernel
theorem g_RX12_487 : ifl RX12 487 = some (11, 49) := by decide +kernel
theorem g_RX12_101 : ifl RX12 101 = some (11, 50) := by decide +kernel
theorem g_RX12_105 : ifl RX12 105 = some (11, 51) := by decide +kernel
theorem g_RX12_108 : ifl RX12 108 = some (11, 52) := by decide +kernel
theorem g_RX12_111 : ifl RX12 111 = some (11, 53) := by decide +kernel
