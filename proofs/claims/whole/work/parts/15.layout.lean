/-! The cells that the two constructors make, in their order; what holds of the references among them. -/
def KK : List Kd := [.inl 10, .inr (0, 700), .inl 6, .inr (0, 9), .inr (0, 9), .inr (0, 9), .inr (0, 45), .inr (0, 8), .inl 4, .inr (0, 700), .inr (0, 40), .inl 4, .inr (0, 700), .inr (0, 40), .inl 2, .inr (0, 8), .inr (0, 8), .inr (0, 9), .inr (0, 9), .inl 6, .inr (0, 9), .inr (0, 9), .inr (0, 9), .inr (0, 45), .inr (0, 8), .inl 4, .inr (0, 700), .inr (0, 40), .inl 4, .inr (0, 700), .inr (0, 40), .inl 2, .inr (0, 8), .inr (0, 8), .inr (0, 9), .inr (0, 9), .inl 3, .inl 7, .inl 2, .inr (0, 8), .inr (0, 8), .inr (0, 9), .inr (0, 9), .inl 0, .inr (0, 1400), .inl 5, .inr (0, 8), .inr (0, 8), .inr (0, 8), .inl 2, .inr (0, 8), .inr (0, 8), .inr (0, 9), .inr (0, 9), .inl 0, .inr (0, 1400), .inl 5, .inr (0, 8), .inr (0, 8), .inr (0, 8), .inr (0, 3), .inl 8, .inl 2, .inr (0, 8), .inr (0, 8), .inr (0, 9), .inr (0, 9), .inr (0, 8), .inr (0, 45), .inr (0, 5), .inl 9, .inr (0, 81), .inr (0, 81), .inr (0, 9), .inr (0, 9), .inr (0, 9), .inr (0, 8), .inr (0, 8), .inr (0, 4608), .inl 1, .inr (0, 9), .inr (0, 8), .inr (0, 8), .inl 11, .inr (0, 9), .inr (0, 9), .inr (0, 9), .inr (0, 45), .inr (0, 8), .inr (0, 1400), .inr (0, 700), .inr (0, 3), .inr (0, 9), .inr (0, 9), .inr (0, 9), .inr (0, 45), .inr (0, 8), .inr (0, 35), .inr (0, 1400), .inr (0, 950), .inr (1, 9), .inr (1, 9), .inr (0, 70), .inr (0, 1400), .inr (0, 45), .inr (0, 9), .inr (0, 8), .inr (0, 5), .inr (0, 950), .inr (0, 100), .inr (0, 100), .inr (0, 9), .inr (0, 4608), .inr (0, 512), .inr (0, 4608), .inr (0, 24), .inr (0, 8), .inr (0, 360), .inr (0, 35), .inr (0, 1400), .inr (0, 24), .inr (2, 1)]
theorem kd_1 : g_k KK 1 = some (.inl 10) := rfl
theorem kd_2 : g_k KK 2 = some (.inr (0, 700)) := rfl
theorem kd_3 : g_k KK 3 = some (.inl 6) := rfl
theorem kd_4 : g_k KK 4 = some (.inr (0, 9)) := rfl
theorem kd_5 : g_k KK 5 = some (.inr (0, 9)) := rfl
theorem kd_6 : g_k KK 6 = some (.inr (0, 9)) := rfl
theorem kd_7 : g_k KK 7 = some (.inr (0, 45)) := rfl
theorem kd_8 : g_k KK 8 = some (.inr (0, 8)) := rfl
theorem kd_9 : g_k KK 9 = some (.inl 4) := rfl
theorem kd_10 : g_k KK 10 = some (.inr (0, 700)) := rfl
theorem kd_11 : g_k KK 11 = some (.inr (0, 40)) := rfl
theorem kd_12 : g_k KK 12 = some (.inl 4) := rfl
theorem kd_13 : g_k KK 13 = some (.inr (0, 700)) := rfl
theorem kd_14 : g_k KK 14 = some (.inr (0, 40)) := rfl
theorem kd_15 : g_k KK 15 = some (.inl 2) := rfl
theorem kd_16 : g_k KK 16 = some (.inr (0, 8)) := rfl
theorem kd_17 : g_k KK 17 = some (.inr (0, 8)) := rfl
theorem kd_18 : g_k KK 18 = some (.inr (0, 9)) := rfl
theorem kd_19 : g_k KK 19 = some (.inr (0, 9)) := rfl
theorem kd_20 : g_k KK 20 = some (.inl 6) := rfl
theorem kd_21 : g_k KK 21 = some (.inr (0, 9)) := rfl
theorem kd_22 : g_k KK 22 = some (.inr (0, 9)) := rfl
theorem kd_23 : g_k KK 23 = some (.inr (0, 9)) := rfl
theorem kd_24 : g_k KK 24 = some (.inr (0, 45)) := rfl
theorem kd_25 : g_k KK 25 = some (.inr (0, 8)) := rfl
theorem kd_26 : g_k KK 26 = some (.inl 4) := rfl
theorem kd_27 : g_k KK 27 = some (.inr (0, 700)) := rfl
theorem kd_28 : g_k KK 28 = some (.inr (0, 40)) := rfl
theorem kd_29 : g_k KK 29 = some (.inl 4) := rfl
theorem kd_30 : g_k KK 30 = some (.inr (0, 700)) := rfl
theorem kd_31 : g_k KK 31 = some (.inr (0, 40)) := rfl
theorem kd_32 : g_k KK 32 = some (.inl 2) := rfl
theorem kd_33 : g_k KK 33 = some (.inr (0, 8)) := rfl
theorem kd_34 : g_k KK 34 = some (.inr (0, 8)) := rfl
theorem kd_35 : g_k KK 35 = some (.inr (0, 9)) := rfl
theorem kd_36 : g_k KK 36 = some (.inr (0, 9)) := rfl
theorem kd_37 : g_k KK 37 = some (.inl 3) := rfl
theorem kd_38 : g_k KK 38 = some (.inl 7) := rfl
theorem kd_39 : g_k KK 39 = some (.inl 2) := rfl
theorem kd_40 : g_k KK 40 = some (.inr (0, 8)) := rfl
theorem kd_41 : g_k KK 41 = some (.inr (0, 8)) := rfl
theorem kd_42 : g_k KK 42 = some (.inr (0, 9)) := rfl
theorem kd_43 : g_k KK 43 = some (.inr (0, 9)) := rfl
theorem kd_44 : g_k KK 44 = some (.inl 0) := rfl
theorem kd_45 : g_k KK 45 = some (.inr (0, 1400)) := rfl
theorem kd_46 : g_k KK 46 = some (.inl 5) := rfl
theorem kd_47 : g_k KK 47 = some (.inr (0, 8)) := rfl
theorem kd_48 : g_k KK 48 = some (.inr (0, 8)) := rfl
theorem kd_49 : g_k KK 49 = some (.inr (0, 8)) := rfl
theorem kd_50 : g_k KK 50 = some (.inl 2) := rfl
theorem kd_51 : g_k KK 51 = some (.inr (0, 8)) := rfl
theorem kd_52 : g_k KK 52 = some (.inr (0, 8)) := rfl
theorem kd_53 : g_k KK 53 = some (.inr (0, 9)) := rfl
theorem kd_54 : g_k KK 54 = some (.inr (0, 9)) := rfl
theorem kd_55 : g_k KK 55 = some (.inl 0) := rfl
theorem kd_56 : g_k KK 56 = some (.inr (0, 1400)) := rfl
theorem kd_57 : g_k KK 57 = some (.inl 5) := rfl
theorem kd_58 : g_k KK 58 = some (.inr (0, 8)) := rfl
theorem kd_59 : g_k KK 59 = some (.inr (0, 8)) := rfl
theorem kd_60 : g_k KK 60 = some (.inr (0, 8)) := rfl
theorem kd_61 : g_k KK 61 = some (.inr (0, 3)) := rfl
theorem kd_62 : g_k KK 62 = some (.inl 8) := rfl
theorem kd_63 : g_k KK 63 = some (.inl 2) := rfl
theorem kd_64 : g_k KK 64 = some (.inr (0, 8)) := rfl
theorem kd_65 : g_k KK 65 = some (.inr (0, 8)) := rfl
theorem kd_66 : g_k KK 66 = some (.inr (0, 9)) := rfl
theorem kd_67 : g_k KK 67 = some (.inr (0, 9)) := rfl
theorem kd_68 : g_k KK 68 = some (.inr (0, 8)) := rfl
theorem kd_69 : g_k KK 69 = some (.inr (0, 45)) := rfl
theorem kd_70 : g_k KK 70 = some (.inr (0, 5)) := rfl
theorem kd_71 : g_k KK 71 = some (.inl 9) := rfl
theorem kd_72 : g_k KK 72 = some (.inr (0, 81)) := rfl
theorem kd_73 : g_k KK 73 = some (.inr (0, 81)) := rfl
theorem kd_74 : g_k KK 74 = some (.inr (0, 9)) := rfl
theorem kd_75 : g_k KK 75 = some (.inr (0, 9)) := rfl
theorem kd_76 : g_k KK 76 = some (.inr (0, 9)) := rfl
theorem kd_77 : g_k KK 77 = some (.inr (0, 8)) := rfl
theorem kd_78 : g_k KK 78 = some (.inr (0, 8)) := rfl
theorem kd_79 : g_k KK 79 = some (.inr (0, 4608)) := rfl
theorem kd_80 : g_k KK 80 = some (.inl 1) := rfl
theorem kd_81 : g_k KK 81 = some (.inr (0, 9)) := rfl
theorem kd_82 : g_k KK 82 = some (.inr (0, 8)) := rfl
theorem kd_83 : g_k KK 83 = some (.inr (0, 8)) := rfl
theorem kd_84 : g_k KK 84 = some (.inl 11) := rfl
theorem kd_85 : g_k KK 85 = some (.inr (0, 9)) := rfl
theorem kd_86 : g_k KK 86 = some (.inr (0, 9)) := rfl
theorem kd_87 : g_k KK 87 = some (.inr (0, 9)) := rfl
theorem kd_88 : g_k KK 88 = some (.inr (0, 45)) := rfl
theorem kd_89 : g_k KK 89 = some (.inr (0, 8)) := rfl
theorem kd_90 : g_k KK 90 = some (.inr (0, 1400)) := rfl
theorem kd_91 : g_k KK 91 = some (.inr (0, 700)) := rfl
theorem kd_92 : g_k KK 92 = some (.inr (0, 3)) := rfl
theorem kd_93 : g_k KK 93 = some (.inr (0, 9)) := rfl
theorem kd_94 : g_k KK 94 = some (.inr (0, 9)) := rfl
theorem kd_95 : g_k KK 95 = some (.inr (0, 9)) := rfl
theorem kd_96 : g_k KK 96 = some (.inr (0, 45)) := rfl
theorem kd_97 : g_k KK 97 = some (.inr (0, 8)) := rfl
theorem kd_98 : g_k KK 98 = some (.inr (0, 35)) := rfl
theorem kd_99 : g_k KK 99 = some (.inr (0, 1400)) := rfl
theorem kd_100 : g_k KK 100 = some (.inr (0, 950)) := rfl
theorem kd_101 : g_k KK 101 = some (.inr (1, 9)) := rfl
theorem kd_102 : g_k KK 102 = some (.inr (1, 9)) := rfl
theorem kd_103 : g_k KK 103 = some (.inr (0, 70)) := rfl
theorem kd_104 : g_k KK 104 = some (.inr (0, 1400)) := rfl
theorem kd_105 : g_k KK 105 = some (.inr (0, 45)) := rfl
theorem kd_106 : g_k KK 106 = some (.inr (0, 9)) := rfl
theorem kd_107 : g_k KK 107 = some (.inr (0, 8)) := rfl
theorem kd_108 : g_k KK 108 = some (.inr (0, 5)) := rfl
theorem kd_109 : g_k KK 109 = some (.inr (0, 950)) := rfl
theorem kd_110 : g_k KK 110 = some (.inr (0, 100)) := rfl
theorem kd_111 : g_k KK 111 = some (.inr (0, 100)) := rfl
theorem kd_112 : g_k KK 112 = some (.inr (0, 9)) := rfl
theorem kd_113 : g_k KK 113 = some (.inr (0, 4608)) := rfl
theorem kd_114 : g_k KK 114 = some (.inr (0, 512)) := rfl
theorem kd_115 : g_k KK 115 = some (.inr (0, 4608)) := rfl
theorem kd_116 : g_k KK 116 = some (.inr (0, 24)) := rfl
theorem kd_117 : g_k KK 117 = some (.inr (0, 8)) := rfl
theorem kd_118 : g_k KK 118 = some (.inr (0, 360)) := rfl
theorem kd_119 : g_k KK 119 = some (.inr (0, 35)) := rfl
theorem kd_120 : g_k KK 120 = some (.inr (0, 1400)) := rfl
theorem kd_121 : g_k KK 121 = some (.inr (0, 24)) := rfl
theorem kd_122 : g_k KK 122 = some (.inr (2, 1)) := rfl
def lytab : List (Int × Int × Int) := [(1, 0, 2), (1, 5, 37), (1, 6, 39), (1, 7, 44), (1, 8, 46), (1, 10, 50), (1, 11, 55), (1, 12, 57), (1, 13, 61), (1, 14, 62), (1, 15, 71), (1, 16, 80), (1, 17, 81), (1, 18, 82), (1, 19, 83), (3, 2, 4), (3, 3, 5), (3, 4, 6), (3, 5, 7), (3, 6, 8), (3, 7, 9), (3, 8, 12), (3, 9, 15), (9, 0, 10), (9, 1, 11), (12, 0, 13), (12, 1, 14), (15, 1, 16), (15, 2, 17), (15, 3, 18), (15, 4, 19), (20, 2, 21), (20, 3, 22), (20, 4, 23), (20, 5, 24), (20, 6, 25), (20, 7, 26), (20, 8, 29), (20, 9, 32), (26, 0, 27), (26, 1, 28), (29, 0, 30), (29, 1, 31), (32, 1, 33), (32, 2, 34), (32, 3, 35), (32, 4, 36), (37, 0, 38), (38, 0, 2), (39, 1, 40), (39, 2, 41), (39, 3, 42), (39, 4, 43), (44, 0, 45), (46, 0, 47), (46, 1, 48), (46, 2, 49), (50, 1, 51), (50, 2, 52), (50, 3, 53), (50, 4, 54), (55, 0, 56), (57, 0, 58), (57, 1, 59), (57, 2, 60), (62, 1, 63), (62, 2, 68), (62, 3, 69), (62, 4, 70), (63, 1, 64), (63, 2, 65), (63, 3, 66), (63, 4, 67), (71, 1, 72), (71, 2, 73), (71, 3, 74), (71, 4, 75), (71, 5, 76), (71, 6, 77), (71, 7, 78), (71, 10, 79), (84, 5, 85), (84, 6, 86), (84, 7, 87), (84, 8, 88), (84, 9, 89), (84, 10, 90), (84, 11, 91), (84, 15, 92), (84, 33, 93), (84, 34, 94), (84, 35, 95), (84, 36, 96), (84, 37, 97), (84, 38, 98), (84, 39, 99), (84, 40, 100), (84, 41, 101), (84, 42, 102), (84, 43, 103), (84, 44, 104), (84, 46, 105), (84, 47, 106), (84, 48, 107), (84, 49, 108), (84, 50, 109), (84, 52, 110), (84, 53, 111), (84, 54, 112), (84, 55, 113), (84, 56, 114), (84, 57, 115), (84, 59, 116), (84, 60, 117), (84, 61, 118), (84, 66, 119), (84, 67, 120), (84, 68, 121)]
def LY (ρ : Mm) : Prop := ∀ q ∈ lytab, ρ q.1 q.2.1 = q.2.2
theorem ly_1_0 {ρ : Mm} (h : LY ρ) : ρ 1 0 = 2 := h (1, 0, 2) (List.mem_of_getElem? (i := 0) rfl)
theorem ly_1_5 {ρ : Mm} (h : LY ρ) : ρ 1 5 = 37 := h (1, 5, 37) (List.mem_of_getElem? (i := 1) rfl)
theorem ly_1_6 {ρ : Mm} (h : LY ρ) : ρ 1 6 = 39 := h (1, 6, 39) (List.mem_of_getElem? (i := 2) rfl)
theorem ly_1_7 {ρ : Mm} (h : LY ρ) : ρ 1 7 = 44 := h (1, 7, 44) (List.mem_of_getElem? (i := 3) rfl)
theorem ly_1_8 {ρ : Mm} (h : LY ρ) : ρ 1 8 = 46 := h (1, 8, 46) (List.mem_of_getElem? (i := 4) rfl)
theorem ly_1_10 {ρ : Mm} (h : LY ρ) : ρ 1 10 = 50 := h (1, 10, 50) (List.mem_of_getElem? (i := 5) rfl)
theorem ly_1_11 {ρ : Mm} (h : LY ρ) : ρ 1 11 = 55 := h (1, 11, 55) (List.mem_of_getElem? (i := 6) rfl)
theorem ly_1_12 {ρ : Mm} (h : LY ρ) : ρ 1 12 = 57 := h (1, 12, 57) (List.mem_of_getElem? (i := 7) rfl)
theorem ly_1_13 {ρ : Mm} (h : LY ρ) : ρ 1 13 = 61 := h (1, 13, 61) (List.mem_of_getElem? (i := 8) rfl)
theorem ly_1_14 {ρ : Mm} (h : LY ρ) : ρ 1 14 = 62 := h (1, 14, 62) (List.mem_of_getElem? (i := 9) rfl)
theorem ly_1_15 {ρ : Mm} (h : LY ρ) : ρ 1 15 = 71 := h (1, 15, 71) (List.mem_of_getElem? (i := 10) rfl)
theorem ly_1_16 {ρ : Mm} (h : LY ρ) : ρ 1 16 = 80 := h (1, 16, 80) (List.mem_of_getElem? (i := 11) rfl)
theorem ly_1_17 {ρ : Mm} (h : LY ρ) : ρ 1 17 = 81 := h (1, 17, 81) (List.mem_of_getElem? (i := 12) rfl)
theorem ly_1_18 {ρ : Mm} (h : LY ρ) : ρ 1 18 = 82 := h (1, 18, 82) (List.mem_of_getElem? (i := 13) rfl)
theorem ly_1_19 {ρ : Mm} (h : LY ρ) : ρ 1 19 = 83 := h (1, 19, 83) (List.mem_of_getElem? (i := 14) rfl)
theorem ly_3_2 {ρ : Mm} (h : LY ρ) : ρ 3 2 = 4 := h (3, 2, 4) (List.mem_of_getElem? (i := 15) rfl)
theorem ly_3_3 {ρ : Mm} (h : LY ρ) : ρ 3 3 = 5 := h (3, 3, 5) (List.mem_of_getElem? (i := 16) rfl)
theorem ly_3_4 {ρ : Mm} (h : LY ρ) : ρ 3 4 = 6 := h (3, 4, 6) (List.mem_of_getElem? (i := 17) rfl)
theorem ly_3_5 {ρ : Mm} (h : LY ρ) : ρ 3 5 = 7 := h (3, 5, 7) (List.mem_of_getElem? (i := 18) rfl)
theorem ly_3_6 {ρ : Mm} (h : LY ρ) : ρ 3 6 = 8 := h (3, 6, 8) (List.mem_of_getElem? (i := 19) rfl)
theorem ly_3_7 {ρ : Mm} (h : LY ρ) : ρ 3 7 = 9 := h (3, 7, 9) (List.mem_of_getElem? (i := 20) rfl)
theorem ly_3_8 {ρ : Mm} (h : LY ρ) : ρ 3 8 = 12 := h (3, 8, 12) (List.mem_of_getElem? (i := 21) rfl)
theorem ly_3_9 {ρ : Mm} (h : LY ρ) : ρ 3 9 = 15 := h (3, 9, 15) (List.mem_of_getElem? (i := 22) rfl)
theorem ly_9_0 {ρ : Mm} (h : LY ρ) : ρ 9 0 = 10 := h (9, 0, 10) (List.mem_of_getElem? (i := 23) rfl)
theorem ly_9_1 {ρ : Mm} (h : LY ρ) : ρ 9 1 = 11 := h (9, 1, 11) (List.mem_of_getElem? (i := 24) rfl)
theorem ly_12_0 {ρ : Mm} (h : LY ρ) : ρ 12 0 = 13 := h (12, 0, 13) (List.mem_of_getElem? (i := 25) rfl)
theorem ly_12_1 {ρ : Mm} (h : LY ρ) : ρ 12 1 = 14 := h (12, 1, 14) (List.mem_of_getElem? (i := 26) rfl)
theorem ly_15_1 {ρ : Mm} (h : LY ρ) : ρ 15 1 = 16 := h (15, 1, 16) (List.mem_of_getElem? (i := 27) rfl)
theorem ly_15_2 {ρ : Mm} (h : LY ρ) : ρ 15 2 = 17 := h (15, 2, 17) (List.mem_of_getElem? (i := 28) rfl)
theorem ly_15_3 {ρ : Mm} (h : LY ρ) : ρ 15 3 = 18 := h (15, 3, 18) (List.mem_of_getElem? (i := 29) rfl)
theorem ly_15_4 {ρ : Mm} (h : LY ρ) : ρ 15 4 = 19 := h (15, 4, 19) (List.mem_of_getElem? (i := 30) rfl)
theorem ly_20_2 {ρ : Mm} (h : LY ρ) : ρ 20 2 = 21 := h (20, 2, 21) (List.mem_of_getElem? (i := 31) rfl)
theorem ly_20_3 {ρ : Mm} (h : LY ρ) : ρ 20 3 = 22 := h (20, 3, 22) (List.mem_of_getElem? (i := 32) rfl)
theorem ly_20_4 {ρ : Mm} (h : LY ρ) : ρ 20 4 = 23 := h (20, 4, 23) (List.mem_of_getElem? (i := 33) rfl)
theorem ly_20_5 {ρ : Mm} (h : LY ρ) : ρ 20 5 = 24 := h (20, 5, 24) (List.mem_of_getElem? (i := 34) rfl)
theorem ly_20_6 {ρ : Mm} (h : LY ρ) : ρ 20 6 = 25 := h (20, 6, 25) (List.mem_of_getElem? (i := 35) rfl)
theorem ly_20_7 {ρ : Mm} (h : LY ρ) : ρ 20 7 = 26 := h (20, 7, 26) (List.mem_of_getElem? (i := 36) rfl)
theorem ly_20_8 {ρ : Mm} (h : LY ρ) : ρ 20 8 = 29 := h (20, 8, 29) (List.mem_of_getElem? (i := 37) rfl)
theorem ly_20_9 {ρ : Mm} (h : LY ρ) : ρ 20 9 = 32 := h (20, 9, 32) (List.mem_of_getElem? (i := 38) rfl)
theorem ly_26_0 {ρ : Mm} (h : LY ρ) : ρ 26 0 = 27 := h (26, 0, 27) (List.mem_of_getElem? (i := 39) rfl)
theorem ly_26_1 {ρ : Mm} (h : LY ρ) : ρ 26 1 = 28 := h (26, 1, 28) (List.mem_of_getElem? (i := 40) rfl)
theorem ly_29_0 {ρ : Mm} (h : LY ρ) : ρ 29 0 = 30 := h (29, 0, 30) (List.mem_of_getElem? (i := 41) rfl)
theorem ly_29_1 {ρ : Mm} (h : LY ρ) : ρ 29 1 = 31 := h (29, 1, 31) (List.mem_of_getElem? (i := 42) rfl)
theorem ly_32_1 {ρ : Mm} (h : LY ρ) : ρ 32 1 = 33 := h (32, 1, 33) (List.mem_of_getElem? (i := 43) rfl)
theorem ly_32_2 {ρ : Mm} (h : LY ρ) : ρ 32 2 = 34 := h (32, 2, 34) (List.mem_of_getElem? (i := 44) rfl)
theorem ly_32_3 {ρ : Mm} (h : LY ρ) : ρ 32 3 = 35 := h (32, 3, 35) (List.mem_of_getElem? (i := 45) rfl)
theorem ly_32_4 {ρ : Mm} (h : LY ρ) : ρ 32 4 = 36 := h (32, 4, 36) (List.mem_of_getElem? (i := 46) rfl)
theorem ly_37_0 {ρ : Mm} (h : LY ρ) : ρ 37 0 = 38 := h (37, 0, 38) (List.mem_of_getElem? (i := 47) rfl)
theorem ly_38_0 {ρ : Mm} (h : LY ρ) : ρ 38 0 = 2 := h (38, 0, 2) (List.mem_of_getElem? (i := 48) rfl)
theorem ly_39_1 {ρ : Mm} (h : LY ρ) : ρ 39 1 = 40 := h (39, 1, 40) (List.mem_of_getElem? (i := 49) rfl)
theorem ly_39_2 {ρ : Mm} (h : LY ρ) : ρ 39 2 = 41 := h (39, 2, 41) (List.mem_of_getElem? (i := 50) rfl)
theorem ly_39_3 {ρ : Mm} (h : LY ρ) : ρ 39 3 = 42 := h (39, 3, 42) (List.mem_of_getElem? (i := 51) rfl)
theorem ly_39_4 {ρ : Mm} (h : LY ρ) : ρ 39 4 = 43 := h (39, 4, 43) (List.mem_of_getElem? (i := 52) rfl)
theorem ly_44_0 {ρ : Mm} (h : LY ρ) : ρ 44 0 = 45 := h (44, 0, 45) (List.mem_of_getElem? (i := 53) rfl)
theorem ly_46_0 {ρ : Mm} (h : LY ρ) : ρ 46 0 = 47 := h (46, 0, 47) (List.mem_of_getElem? (i := 54) rfl)
theorem ly_46_1 {ρ : Mm} (h : LY ρ) : ρ 46 1 = 48 := h (46, 1, 48) (List.mem_of_getElem? (i := 55) rfl)
theorem ly_46_2 {ρ : Mm} (h : LY ρ) : ρ 46 2 = 49 := h (46, 2, 49) (List.mem_of_getElem? (i := 56) rfl)
theorem ly_50_1 {ρ : Mm} (h : LY ρ) : ρ 50 1 = 51 := h (50, 1, 51) (List.mem_of_getElem? (i := 57) rfl)
theorem ly_50_2 {ρ : Mm} (h : LY ρ) : ρ 50 2 = 52 := h (50, 2, 52) (List.mem_of_getElem? (i := 58) rfl)
theorem ly_50_3 {ρ : Mm} (h : LY ρ) : ρ 50 3 = 53 := h (50, 3, 53) (List.mem_of_getElem? (i := 59) rfl)
theorem ly_50_4 {ρ : Mm} (h : LY ρ) : ρ 50 4 = 54 := h (50, 4, 54) (List.mem_of_getElem? (i := 60) rfl)
theorem ly_55_0 {ρ : Mm} (h : LY ρ) : ρ 55 0 = 56 := h (55, 0, 56) (List.mem_of_getElem? (i := 61) rfl)
theorem ly_57_0 {ρ : Mm} (h : LY ρ) : ρ 57 0 = 58 := h (57, 0, 58) (List.mem_of_getElem? (i := 62) rfl)
theorem ly_57_1 {ρ : Mm} (h : LY ρ) : ρ 57 1 = 59 := h (57, 1, 59) (List.mem_of_getElem? (i := 63) rfl)
theorem ly_57_2 {ρ : Mm} (h : LY ρ) : ρ 57 2 = 60 := h (57, 2, 60) (List.mem_of_getElem? (i := 64) rfl)
theorem ly_62_1 {ρ : Mm} (h : LY ρ) : ρ 62 1 = 63 := h (62, 1, 63) (List.mem_of_getElem? (i := 65) rfl)
theorem ly_62_2 {ρ : Mm} (h : LY ρ) : ρ 62 2 = 68 := h (62, 2, 68) (List.mem_of_getElem? (i := 66) rfl)
theorem ly_62_3 {ρ : Mm} (h : LY ρ) : ρ 62 3 = 69 := h (62, 3, 69) (List.mem_of_getElem? (i := 67) rfl)
theorem ly_62_4 {ρ : Mm} (h : LY ρ) : ρ 62 4 = 70 := h (62, 4, 70) (List.mem_of_getElem? (i := 68) rfl)
theorem ly_63_1 {ρ : Mm} (h : LY ρ) : ρ 63 1 = 64 := h (63, 1, 64) (List.mem_of_getElem? (i := 69) rfl)
theorem ly_63_2 {ρ : Mm} (h : LY ρ) : ρ 63 2 = 65 := h (63, 2, 65) (List.mem_of_getElem? (i := 70) rfl)
theorem ly_63_3 {ρ : Mm} (h : LY ρ) : ρ 63 3 = 66 := h (63, 3, 66) (List.mem_of_getElem? (i := 71) rfl)
theorem ly_63_4 {ρ : Mm} (h : LY ρ) : ρ 63 4 = 67 := h (63, 4, 67) (List.mem_of_getElem? (i := 72) rfl)
theorem ly_71_1 {ρ : Mm} (h : LY ρ) : ρ 71 1 = 72 := h (71, 1, 72) (List.mem_of_getElem? (i := 73) rfl)
theorem ly_71_2 {ρ : Mm} (h : LY ρ) : ρ 71 2 = 73 := h (71, 2, 73) (List.mem_of_getElem? (i := 74) rfl)
theorem ly_71_3 {ρ : Mm} (h : LY ρ) : ρ 71 3 = 74 := h (71, 3, 74) (List.mem_of_getElem? (i := 75) rfl)
theorem ly_71_4 {ρ : Mm} (h : LY ρ) : ρ 71 4 = 75 := h (71, 4, 75) (List.mem_of_getElem? (i := 76) rfl)
theorem ly_71_5 {ρ : Mm} (h : LY ρ) : ρ 71 5 = 76 := h (71, 5, 76) (List.mem_of_getElem? (i := 77) rfl)
theorem ly_71_6 {ρ : Mm} (h : LY ρ) : ρ 71 6 = 77 := h (71, 6, 77) (List.mem_of_getElem? (i := 78) rfl)
theorem ly_71_7 {ρ : Mm} (h : LY ρ) : ρ 71 7 = 78 := h (71, 7, 78) (List.mem_of_getElem? (i := 79) rfl)
theorem ly_71_10 {ρ : Mm} (h : LY ρ) : ρ 71 10 = 79 := h (71, 10, 79) (List.mem_of_getElem? (i := 80) rfl)
theorem ly_84_5 {ρ : Mm} (h : LY ρ) : ρ 84 5 = 85 := h (84, 5, 85) (List.mem_of_getElem? (i := 81) rfl)
theorem ly_84_6 {ρ : Mm} (h : LY ρ) : ρ 84 6 = 86 := h (84, 6, 86) (List.mem_of_getElem? (i := 82) rfl)
theorem ly_84_7 {ρ : Mm} (h : LY ρ) : ρ 84 7 = 87 := h (84, 7, 87) (List.mem_of_getElem? (i := 83) rfl)
theorem ly_84_8 {ρ : Mm} (h : LY ρ) : ρ 84 8 = 88 := h (84, 8, 88) (List.mem_of_getElem? (i := 84) rfl)
theorem ly_84_9 {ρ : Mm} (h : LY ρ) : ρ 84 9 = 89 := h (84, 9, 89) (List.mem_of_getElem? (i := 85) rfl)
theorem ly_84_10 {ρ : Mm} (h : LY ρ) : ρ 84 10 = 90 := h (84, 10, 90) (List.mem_of_getElem? (i := 86) rfl)
theorem ly_84_11 {ρ : Mm} (h : LY ρ) : ρ 84 11 = 91 := h (84, 11, 91) (List.mem_of_getElem? (i := 87) rfl)
theorem ly_84_15 {ρ : Mm} (h : LY ρ) : ρ 84 15 = 92 := h (84, 15, 92) (List.mem_of_getElem? (i := 88) rfl)
theorem ly_84_33 {ρ : Mm} (h : LY ρ) : ρ 84 33 = 93 := h (84, 33, 93) (List.mem_of_getElem? (i := 89) rfl)
theorem ly_84_34 {ρ : Mm} (h : LY ρ) : ρ 84 34 = 94 := h (84, 34, 94) (List.mem_of_getElem? (i := 90) rfl)
theorem ly_84_35 {ρ : Mm} (h : LY ρ) : ρ 84 35 = 95 := h (84, 35, 95) (List.mem_of_getElem? (i := 91) rfl)
theorem ly_84_36 {ρ : Mm} (h : LY ρ) : ρ 84 36 = 96 := h (84, 36, 96) (List.mem_of_getElem? (i := 92) rfl)
theorem ly_84_37 {ρ : Mm} (h : LY ρ) : ρ 84 37 = 97 := h (84, 37, 97) (List.mem_of_getElem? (i := 93) rfl)
theorem ly_84_38 {ρ : Mm} (h : LY ρ) : ρ 84 38 = 98 := h (84, 38, 98) (List.mem_of_getElem? (i := 94) rfl)
theorem ly_84_39 {ρ : Mm} (h : LY ρ) : ρ 84 39 = 99 := h (84, 39, 99) (List.mem_of_getElem? (i := 95) rfl)
theorem ly_84_40 {ρ : Mm} (h : LY ρ) : ρ 84 40 = 100 := h (84, 40, 100) (List.mem_of_getElem? (i := 96) rfl)
theorem ly_84_41 {ρ : Mm} (h : LY ρ) : ρ 84 41 = 101 := h (84, 41, 101) (List.mem_of_getElem? (i := 97) rfl)
theorem ly_84_42 {ρ : Mm} (h : LY ρ) : ρ 84 42 = 102 := h (84, 42, 102) (List.mem_of_getElem? (i := 98) rfl)
theorem ly_84_43 {ρ : Mm} (h : LY ρ) : ρ 84 43 = 103 := h (84, 43, 103) (List.mem_of_getElem? (i := 99) rfl)
theorem ly_84_44 {ρ : Mm} (h : LY ρ) : ρ 84 44 = 104 := h (84, 44, 104) (List.mem_of_getElem? (i := 100) rfl)
theorem ly_84_46 {ρ : Mm} (h : LY ρ) : ρ 84 46 = 105 := h (84, 46, 105) (List.mem_of_getElem? (i := 101) rfl)
theorem ly_84_47 {ρ : Mm} (h : LY ρ) : ρ 84 47 = 106 := h (84, 47, 106) (List.mem_of_getElem? (i := 102) rfl)
theorem ly_84_48 {ρ : Mm} (h : LY ρ) : ρ 84 48 = 107 := h (84, 48, 107) (List.mem_of_getElem? (i := 103) rfl)
theorem ly_84_49 {ρ : Mm} (h : LY ρ) : ρ 84 49 = 108 := h (84, 49, 108) (List.mem_of_getElem? (i := 104) rfl)
theorem ly_84_50 {ρ : Mm} (h : LY ρ) : ρ 84 50 = 109 := h (84, 50, 109) (List.mem_of_getElem? (i := 105) rfl)
theorem ly_84_52 {ρ : Mm} (h : LY ρ) : ρ 84 52 = 110 := h (84, 52, 110) (List.mem_of_getElem? (i := 106) rfl)
theorem ly_84_53 {ρ : Mm} (h : LY ρ) : ρ 84 53 = 111 := h (84, 53, 111) (List.mem_of_getElem? (i := 107) rfl)
theorem ly_84_54 {ρ : Mm} (h : LY ρ) : ρ 84 54 = 112 := h (84, 54, 112) (List.mem_of_getElem? (i := 108) rfl)
theorem ly_84_55 {ρ : Mm} (h : LY ρ) : ρ 84 55 = 113 := h (84, 55, 113) (List.mem_of_getElem? (i := 109) rfl)
theorem ly_84_56 {ρ : Mm} (h : LY ρ) : ρ 84 56 = 114 := h (84, 56, 114) (List.mem_of_getElem? (i := 110) rfl)
theorem ly_84_57 {ρ : Mm} (h : LY ρ) : ρ 84 57 = 115 := h (84, 57, 115) (List.mem_of_getElem? (i := 111) rfl)
theorem ly_84_59 {ρ : Mm} (h : LY ρ) : ρ 84 59 = 116 := h (84, 59, 116) (List.mem_of_getElem? (i := 112) rfl)
theorem ly_84_60 {ρ : Mm} (h : LY ρ) : ρ 84 60 = 117 := h (84, 60, 117) (List.mem_of_getElem? (i := 113) rfl)
theorem ly_84_61 {ρ : Mm} (h : LY ρ) : ρ 84 61 = 118 := h (84, 61, 118) (List.mem_of_getElem? (i := 114) rfl)
theorem ly_84_66 {ρ : Mm} (h : LY ρ) : ρ 84 66 = 119 := h (84, 66, 119) (List.mem_of_getElem? (i := 115) rfl)
theorem ly_84_67 {ρ : Mm} (h : LY ρ) : ρ 84 67 = 120 := h (84, 67, 120) (List.mem_of_getElem? (i := 116) rfl)
theorem ly_84_68 {ρ : Mm} (h : LY ρ) : ρ 84 68 = 121 := h (84, 68, 121) (List.mem_of_getElem? (i := 117) rfl)
theorem LY_wr {ρ : Mm} {r k x : Int} (h : LY ρ) (hn : ∀ q ∈ lytab, ¬ (q.1 = r ∧ q.2.1 = k)) : LY (wr ρ r k x) := fun q hq => by
  unfold wr
  rw [if_neg (hn q hq)]
  exact h q hq
def isM (ρ : Mm) (r : Int) : Prop := g_k KK r = some (.inl 2) ∧ g_k KK (r + 1) = some (.inr (0, 8)) ∧ g_k KK (r + 2) = some (.inr (0, 8)) ∧ g_k KK (r + 3) = some (.inr (0, 9)) ∧ g_k KK (r + 4) = some (.inr (0, 9)) ∧ ρ r 1 = r + 1 ∧ ρ r 2 = r + 2 ∧ ρ r 3 = r + 3 ∧ ρ r 4 = r + 4 ∧ 0 < r ∧ r + 5 ≤ 122
theorem isM.k0 {ρ : Mm} {r : Int} (h : isM ρ r) : g_k KK r = some (.inl 2) := h.1
theorem isM.k1 {ρ : Mm} {r : Int} (h : isM ρ r) : g_k KK (r + 1) = some (.inr (0, 8)) := h.2.1
theorem isM.k2 {ρ : Mm} {r : Int} (h : isM ρ r) : g_k KK (r + 2) = some (.inr (0, 8)) := h.2.2.1
theorem isM.k3 {ρ : Mm} {r : Int} (h : isM ρ r) : g_k KK (r + 3) = some (.inr (0, 9)) := h.2.2.2.1
theorem isM.k4 {ρ : Mm} {r : Int} (h : isM ρ r) : g_k KK (r + 4) = some (.inr (0, 9)) := h.2.2.2.2.1
theorem isM.r0_1 {ρ : Mm} {r : Int} (h : isM ρ r) : ρ r 1 = r + 1 := h.2.2.2.2.2.1
theorem isM.r0_2 {ρ : Mm} {r : Int} (h : isM ρ r) : ρ r 2 = r + 2 := h.2.2.2.2.2.2.1
theorem isM.r0_3 {ρ : Mm} {r : Int} (h : isM ρ r) : ρ r 3 = r + 3 := h.2.2.2.2.2.2.2.1
theorem isM.r0_4 {ρ : Mm} {r : Int} (h : isM ρ r) : ρ r 4 = r + 4 := h.2.2.2.2.2.2.2.2.1
theorem isM.pos {ρ : Mm} {r : Int} (h : isM ρ r) : 0 < r := h.2.2.2.2.2.2.2.2.2.1
theorem isM.top {ρ : Mm} {r : Int} (h : isM ρ r) : r + 5 ≤ 122 := h.2.2.2.2.2.2.2.2.2.2
theorem isM_39 {ρ : Mm} (h : LY ρ) : isM ρ 39 := ⟨rfl, rfl, rfl, rfl, rfl, ly_39_1 h, ly_39_2 h, ly_39_3 h, ly_39_4 h, by decide, by decide⟩
theorem isM_50 {ρ : Mm} (h : LY ρ) : isM ρ 50 := ⟨rfl, rfl, rfl, rfl, rfl, ly_50_1 h, ly_50_2 h, ly_50_3 h, ly_50_4 h, by decide, by decide⟩
theorem isM_63 {ρ : Mm} (h : LY ρ) : isM ρ 63 := ⟨rfl, rfl, rfl, rfl, rfl, ly_63_1 h, ly_63_2 h, ly_63_3 h, ly_63_4 h, by decide, by decide⟩
theorem isM_15 {ρ : Mm} (h : LY ρ) : isM ρ 15 := ⟨rfl, rfl, rfl, rfl, rfl, ly_15_1 h, ly_15_2 h, ly_15_3 h, ly_15_4 h, by decide, by decide⟩
theorem isM_32 {ρ : Mm} (h : LY ρ) : isM ρ 32 := ⟨rfl, rfl, rfl, rfl, rfl, ly_32_1 h, ly_32_2 h, ly_32_3 h, ly_32_4 h, by decide, by decide⟩
def isU (ρ : Mm) (r : Int) : Prop := g_k KK r = some (.inl 4) ∧ g_k KK (r + 1) = some (.inr (0, 700)) ∧ g_k KK (r + 2) = some (.inr (0, 40)) ∧ ρ r 0 = r + 1 ∧ ρ r 1 = r + 2 ∧ 0 < r ∧ r + 3 ≤ 122
theorem isU.k0 {ρ : Mm} {r : Int} (h : isU ρ r) : g_k KK r = some (.inl 4) := h.1
theorem isU.k1 {ρ : Mm} {r : Int} (h : isU ρ r) : g_k KK (r + 1) = some (.inr (0, 700)) := h.2.1
theorem isU.k2 {ρ : Mm} {r : Int} (h : isU ρ r) : g_k KK (r + 2) = some (.inr (0, 40)) := h.2.2.1
theorem isU.r0_0 {ρ : Mm} {r : Int} (h : isU ρ r) : ρ r 0 = r + 1 := h.2.2.2.1
theorem isU.r0_1 {ρ : Mm} {r : Int} (h : isU ρ r) : ρ r 1 = r + 2 := h.2.2.2.2.1
theorem isU.pos {ρ : Mm} {r : Int} (h : isU ρ r) : 0 < r := h.2.2.2.2.2.1
theorem isU.top {ρ : Mm} {r : Int} (h : isU ρ r) : r + 3 ≤ 122 := h.2.2.2.2.2.2
theorem isU_9 {ρ : Mm} (h : LY ρ) : isU ρ 9 := ⟨rfl, rfl, rfl, ly_9_0 h, ly_9_1 h, by decide, by decide⟩
theorem isU_12 {ρ : Mm} (h : LY ρ) : isU ρ 12 := ⟨rfl, rfl, rfl, ly_12_0 h, ly_12_1 h, by decide, by decide⟩
theorem isU_26 {ρ : Mm} (h : LY ρ) : isU ρ 26 := ⟨rfl, rfl, rfl, ly_26_0 h, ly_26_1 h, by decide, by decide⟩
theorem isU_29 {ρ : Mm} (h : LY ρ) : isU ρ 29 := ⟨rfl, rfl, rfl, ly_29_0 h, ly_29_1 h, by decide, by decide⟩
def isA (ρ : Mm) (r : Int) : Prop := g_k KK r = some (.inl 0) ∧ g_k KK (r + 1) = some (.inr (0, 1400)) ∧ ρ r 0 = r + 1 ∧ 0 < r ∧ r + 2 ≤ 122
theorem isA.k0 {ρ : Mm} {r : Int} (h : isA ρ r) : g_k KK r = some (.inl 0) := h.1
theorem isA.k1 {ρ : Mm} {r : Int} (h : isA ρ r) : g_k KK (r + 1) = some (.inr (0, 1400)) := h.2.1
theorem isA.r0_0 {ρ : Mm} {r : Int} (h : isA ρ r) : ρ r 0 = r + 1 := h.2.2.1
theorem isA.pos {ρ : Mm} {r : Int} (h : isA ρ r) : 0 < r := h.2.2.2.1
theorem isA.top {ρ : Mm} {r : Int} (h : isA ρ r) : r + 2 ≤ 122 := h.2.2.2.2
theorem isA_44 {ρ : Mm} (h : LY ρ) : isA ρ 44 := ⟨rfl, rfl, ly_44_0 h, by decide, by decide⟩
theorem isA_55 {ρ : Mm} (h : LY ρ) : isA ρ 55 := ⟨rfl, rfl, ly_55_0 h, by decide, by decide⟩
def isE (ρ : Mm) (r : Int) : Prop := g_k KK r = some (.inl 5) ∧ g_k KK (r + 1) = some (.inr (0, 8)) ∧ g_k KK (r + 2) = some (.inr (0, 8)) ∧ g_k KK (r + 3) = some (.inr (0, 8)) ∧ ρ r 0 = r + 1 ∧ ρ r 1 = r + 2 ∧ ρ r 2 = r + 3 ∧ 0 < r ∧ r + 4 ≤ 122
theorem isE.k0 {ρ : Mm} {r : Int} (h : isE ρ r) : g_k KK r = some (.inl 5) := h.1
theorem isE.k1 {ρ : Mm} {r : Int} (h : isE ρ r) : g_k KK (r + 1) = some (.inr (0, 8)) := h.2.1
theorem isE.k2 {ρ : Mm} {r : Int} (h : isE ρ r) : g_k KK (r + 2) = some (.inr (0, 8)) := h.2.2.1
theorem isE.k3 {ρ : Mm} {r : Int} (h : isE ρ r) : g_k KK (r + 3) = some (.inr (0, 8)) := h.2.2.2.1
theorem isE.r0_0 {ρ : Mm} {r : Int} (h : isE ρ r) : ρ r 0 = r + 1 := h.2.2.2.2.1
theorem isE.r0_1 {ρ : Mm} {r : Int} (h : isE ρ r) : ρ r 1 = r + 2 := h.2.2.2.2.2.1
theorem isE.r0_2 {ρ : Mm} {r : Int} (h : isE ρ r) : ρ r 2 = r + 3 := h.2.2.2.2.2.2.1
theorem isE.pos {ρ : Mm} {r : Int} (h : isE ρ r) : 0 < r := h.2.2.2.2.2.2.2.1
theorem isE.top {ρ : Mm} {r : Int} (h : isE ρ r) : r + 4 ≤ 122 := h.2.2.2.2.2.2.2.2
theorem isE_46 {ρ : Mm} (h : LY ρ) : isE ρ 46 := ⟨rfl, rfl, rfl, rfl, ly_46_0 h, ly_46_1 h, ly_46_2 h, by decide, by decide⟩
theorem isE_57 {ρ : Mm} (h : LY ρ) : isE ρ 57 := ⟨rfl, rfl, rfl, rfl, ly_57_0 h, ly_57_1 h, ly_57_2 h, by decide, by decide⟩
def isS (ρ : Mm) (r : Int) : Prop := g_k KK r = some (.inl 6) ∧ g_k KK (r + 1) = some (.inr (0, 9)) ∧ g_k KK (r + 2) = some (.inr (0, 9)) ∧ g_k KK (r + 3) = some (.inr (0, 9)) ∧ g_k KK (r + 4) = some (.inr (0, 45)) ∧ g_k KK (r + 5) = some (.inr (0, 8)) ∧ g_k KK (r + 6) = some (.inl 4) ∧ g_k KK (r + 7) = some (.inr (0, 700)) ∧ g_k KK (r + 8) = some (.inr (0, 40)) ∧ g_k KK (r + 9) = some (.inl 4) ∧ g_k KK (r + 10) = some (.inr (0, 700)) ∧ g_k KK (r + 11) = some (.inr (0, 40)) ∧ g_k KK (r + 12) = some (.inl 2) ∧ g_k KK (r + 13) = some (.inr (0, 8)) ∧ g_k KK (r + 14) = some (.inr (0, 8)) ∧ g_k KK (r + 15) = some (.inr (0, 9)) ∧ g_k KK (r + 16) = some (.inr (0, 9)) ∧ ρ r 2 = r + 1 ∧ ρ r 3 = r + 2 ∧ ρ r 4 = r + 3 ∧ ρ r 5 = r + 4 ∧ ρ r 6 = r + 5 ∧ ρ r 7 = r + 6 ∧ ρ r 8 = r + 9 ∧ ρ r 9 = r + 12 ∧ ρ (r + 6) 0 = r + 7 ∧ ρ (r + 6) 1 = r + 8 ∧ ρ (r + 9) 0 = r + 10 ∧ ρ (r + 9) 1 = r + 11 ∧ ρ (r + 12) 1 = r + 13 ∧ ρ (r + 12) 2 = r + 14 ∧ ρ (r + 12) 3 = r + 15 ∧ ρ (r + 12) 4 = r + 16 ∧ 0 < r ∧ r + 17 ≤ 122
theorem isS.k0 {ρ : Mm} {r : Int} (h : isS ρ r) : g_k KK r = some (.inl 6) := h.1
theorem isS.k1 {ρ : Mm} {r : Int} (h : isS ρ r) : g_k KK (r + 1) = some (.inr (0, 9)) := h.2.1
theorem isS.k2 {ρ : Mm} {r : Int} (h : isS ρ r) : g_k KK (r + 2) = some (.inr (0, 9)) := h.2.2.1
theorem isS.k3 {ρ : Mm} {r : Int} (h : isS ρ r) : g_k KK (r + 3) = some (.inr (0, 9)) := h.2.2.2.1
theorem isS.k4 {ρ : Mm} {r : Int} (h : isS ρ r) : g_k KK (r + 4) = some (.inr (0, 45)) := h.2.2.2.2.1
theorem isS.k5 {ρ : Mm} {r : Int} (h : isS ρ r) : g_k KK (r + 5) = some (.inr (0, 8)) := h.2.2.2.2.2.1
theorem isS.k6 {ρ : Mm} {r : Int} (h : isS ρ r) : g_k KK (r + 6) = some (.inl 4) := h.2.2.2.2.2.2.1
theorem isS.k7 {ρ : Mm} {r : Int} (h : isS ρ r) : g_k KK (r + 7) = some (.inr (0, 700)) := h.2.2.2.2.2.2.2.1
theorem isS.k8 {ρ : Mm} {r : Int} (h : isS ρ r) : g_k KK (r + 8) = some (.inr (0, 40)) := h.2.2.2.2.2.2.2.2.1
theorem isS.k9 {ρ : Mm} {r : Int} (h : isS ρ r) : g_k KK (r + 9) = some (.inl 4) := h.2.2.2.2.2.2.2.2.2.1
theorem isS.k10 {ρ : Mm} {r : Int} (h : isS ρ r) : g_k KK (r + 10) = some (.inr (0, 700)) := h.2.2.2.2.2.2.2.2.2.2.1
theorem isS.k11 {ρ : Mm} {r : Int} (h : isS ρ r) : g_k KK (r + 11) = some (.inr (0, 40)) := h.2.2.2.2.2.2.2.2.2.2.2.1
theorem isS.k12 {ρ : Mm} {r : Int} (h : isS ρ r) : g_k KK (r + 12) = some (.inl 2) := h.2.2.2.2.2.2.2.2.2.2.2.2.1
theorem isS.k13 {ρ : Mm} {r : Int} (h : isS ρ r) : g_k KK (r + 13) = some (.inr (0, 8)) := h.2.2.2.2.2.2.2.2.2.2.2.2.2.1
theorem isS.k14 {ρ : Mm} {r : Int} (h : isS ρ r) : g_k KK (r + 14) = some (.inr (0, 8)) := h.2.2.2.2.2.2.2.2.2.2.2.2.2.2.1
theorem isS.k15 {ρ : Mm} {r : Int} (h : isS ρ r) : g_k KK (r + 15) = some (.inr (0, 9)) := h.2.2.2.2.2.2.2.2.2.2.2.2.2.2.2.1
theorem isS.k16 {ρ : Mm} {r : Int} (h : isS ρ r) : g_k KK (r + 16) = some (.inr (0, 9)) := h.2.2.2.2.2.2.2.2.2.2.2.2.2.2.2.2.1
theorem isS.r0_2 {ρ : Mm} {r : Int} (h : isS ρ r) : ρ r 2 = r + 1 := h.2.2.2.2.2.2.2.2.2.2.2.2.2.2.2.2.2.1
theorem isS.r0_3 {ρ : Mm} {r : Int} (h : isS ρ r) : ρ r 3 = r + 2 := h.2.2.2.2.2.2.2.2.2.2.2.2.2.2.2.2.2.2.1
theorem isS.r0_4 {ρ : Mm} {r : Int} (h : isS ρ r) : ρ r 4 = r + 3 := h.2.2.2.2.2.2.2.2.2.2.2.2.2.2.2.2.2.2.2.1
theorem isS.r0_5 {ρ : Mm} {r : Int} (h : isS ρ r) : ρ r 5 = r + 4 := h.2.2.2.2.2.2.2.2.2.2.2.2.2.2.2.2.2.2.2.2.1
theorem isS.r0_6 {ρ : Mm} {r : Int} (h : isS ρ r) : ρ r 6 = r + 5 := h.2.2.2.2.2.2.2.2.2.2.2.2.2.2.2.2.2.2.2.2.2.1
theorem isS.r0_7 {ρ : Mm} {r : Int} (h : isS ρ r) : ρ r 7 = r + 6 := h.2.2.2.2.2.2.2.2.2.2.2.2.2.2.2.2.2.2.2.2.2.2.1
theorem isS.r0_8 {ρ : Mm} {r : Int} (h : isS ρ r) : ρ r 8 = r + 9 := h.2.2.2.2.2.2.2.2.2.2.2.2.2.2.2.2.2.2.2.2.2.2.2.1
theorem isS.r0_9 {ρ : Mm} {r : Int} (h : isS ρ r) : ρ r 9 = r + 12 := h.2.2.2.2.2.2.2.2.2.2.2.2.2.2.2.2.2.2.2.2.2.2.2.2.1
theorem isS.r6_0 {ρ : Mm} {r : Int} (h : isS ρ r) : ρ (r + 6) 0 = r + 7 := h.2.2.2.2.2.2.2.2.2.2.2.2.2.2.2.2.2.2.2.2.2.2.2.2.2.1
theorem isS.r6_1 {ρ : Mm} {r : Int} (h : isS ρ r) : ρ (r + 6) 1 = r + 8 := h.2.2.2.2.2.2.2.2.2.2.2.2.2.2.2.2.2.2.2.2.2.2.2.2.2.2.1
theorem isS.r9_0 {ρ : Mm} {r : Int} (h : isS ρ r) : ρ (r + 9) 0 = r + 10 := h.2.2.2.2.2.2.2.2.2.2.2.2.2.2.2.2.2.2.2.2.2.2.2.2.2.2.2.1
theorem isS.r9_1 {ρ : Mm} {r : Int} (h : isS ρ r) : ρ (r + 9) 1 = r + 11 := h.2.2.2.2.2.2.2.2.2.2.2.2.2.2.2.2.2.2.2.2.2.2.2.2.2.2.2.2.1
theorem isS.r12_1 {ρ : Mm} {r : Int} (h : isS ρ r) : ρ (r + 12) 1 = r + 13 := h.2.2.2.2.2.2.2.2.2.2.2.2.2.2.2.2.2.2.2.2.2.2.2.2.2.2.2.2.2.1
theorem isS.r12_2 {ρ : Mm} {r : Int} (h : isS ρ r) : ρ (r + 12) 2 = r + 14 := h.2.2.2.2.2.2.2.2.2.2.2.2.2.2.2.2.2.2.2.2.2.2.2.2.2.2.2.2.2.2.1
theorem isS.r12_3 {ρ : Mm} {r : Int} (h : isS ρ r) : ρ (r + 12) 3 = r + 15 := h.2.2.2.2.2.2.2.2.2.2.2.2.2.2.2.2.2.2.2.2.2.2.2.2.2.2.2.2.2.2.2.1
theorem isS.r12_4 {ρ : Mm} {r : Int} (h : isS ρ r) : ρ (r + 12) 4 = r + 16 := h.2.2.2.2.2.2.2.2.2.2.2.2.2.2.2.2.2.2.2.2.2.2.2.2.2.2.2.2.2.2.2.2.1
theorem isS.pos {ρ : Mm} {r : Int} (h : isS ρ r) : 0 < r := h.2.2.2.2.2.2.2.2.2.2.2.2.2.2.2.2.2.2.2.2.2.2.2.2.2.2.2.2.2.2.2.2.2.1
theorem isS.top {ρ : Mm} {r : Int} (h : isS ρ r) : r + 17 ≤ 122 := h.2.2.2.2.2.2.2.2.2.2.2.2.2.2.2.2.2.2.2.2.2.2.2.2.2.2.2.2.2.2.2.2.2.2
theorem isS_3 {ρ : Mm} (h : LY ρ) : isS ρ 3 := ⟨rfl, rfl, rfl, rfl, rfl, rfl, rfl, rfl, rfl, rfl, rfl, rfl, rfl, rfl, rfl, rfl, rfl, ly_3_2 h, ly_3_3 h, ly_3_4 h, ly_3_5 h, ly_3_6 h, ly_3_7 h, ly_3_8 h, ly_3_9 h, ly_9_0 h, ly_9_1 h, ly_12_0 h, ly_12_1 h, ly_15_1 h, ly_15_2 h, ly_15_3 h, ly_15_4 h, by decide, by decide⟩
theorem isS_20 {ρ : Mm} (h : LY ρ) : isS ρ 20 := ⟨rfl, rfl, rfl, rfl, rfl, rfl, rfl, rfl, rfl, rfl, rfl, rfl, rfl, rfl, rfl, rfl, rfl, ly_20_2 h, ly_20_3 h, ly_20_4 h, ly_20_5 h, ly_20_6 h, ly_20_7 h, ly_20_8 h, ly_20_9 h, ly_26_0 h, ly_26_1 h, ly_29_0 h, ly_29_1 h, ly_32_1 h, ly_32_2 h, ly_32_3 h, ly_32_4 h, by decide, by decide⟩
theorem isS.mom {ρ : Mm} {r : Int} (h : isS ρ r) : isM ρ (r + 12) := by
  have e : ∀ a b : Int, r + a + b = r + (a + b) := fun a b => by omega
  refine ⟨h.k12, ?_, ?_, ?_, ?_, ?_, ?_, ?_, ?_, ?_, ?_⟩
  all_goals (try rw [e])
  · exact h.k13
  · exact h.k14
  · exact h.k15
  · exact h.k16
  · exact h.r12_1
  · exact h.r12_2
  · exact h.r12_3
  · exact h.r12_4
  · have := h.pos; omega
  · have := h.top; omega
theorem isS.hee {ρ : Mm} {r : Int} (h : isS ρ r) : isU ρ (r + 6) := by
  have e : ∀ a b : Int, r + a + b = r + (a + b) := fun a b => by omega
  refine ⟨h.k6, ?_, ?_, ?_, ?_, ?_, ?_⟩
  all_goals (try rw [e])
  · exact h.k7
  · exact h.k8
  · exact h.r6_0
  · exact h.r6_1
  · have := h.pos; omega
  · have := h.top; omega
theorem isS.tur {ρ : Mm} {r : Int} (h : isS ρ r) : isU ρ (r + 9) := by
  have e : ∀ a b : Int, r + a + b = r + (a + b) := fun a b => by omega
  refine ⟨h.k9, ?_, ?_, ?_, ?_, ?_, ?_⟩
  all_goals (try rw [e])
  · exact h.k10
  · exact h.k11
  · exact h.r9_0
  · exact h.r9_1
  · have := h.pos; omega
  · have := h.top; omega
theorem isS_of {ρ : Mm} (h : LY ρ) {r : Int} (hr : r = 3 ∨ r = 20) : isS ρ r := by
  rcases hr with rfl | rfl
  · exact isS_3 h
  · exact isS_20 h
section
variable {l : Launch} {γ : Gh} {μ : MD} {d cb sb : Nat} {R : RR} {X : XX} {K : List Kd} {ρ m : Mm} {pc n : Nat} {ls : List (Option VV)} {st : List VV}
theorem tz_getAv {r a : Int} {idx ci k : Nat} {fin : Bool} {ty : FieldType} (hf : g_FK μ.1.cls idx ci k fin (.array ty)) (hk : g_k K r = some (.inl ci)) (hv : ρ r k = a) (hd : decode μ.2.1 pc = .ok (.getfield idx, 3)) (hn : pc + 3 = n) (kk : gT l γ μ d cb sb R X K ρ m n ls (vR a :: st)) : gT l γ μ d cb sb R X K ρ m pc ls (vR r :: st) := tz_getA hf hk hd hn (by rw [hv]; exact kk)
theorem tz_getOv {r a : Int} {idx ci k : Nat} {fin : Bool} {ty : String} (hf : g_FK μ.1.cls idx ci k fin (.object ty)) (hk : g_k K r = some (.inl ci)) (hv : ρ r k = a) (hd : decode μ.2.1 pc = .ok (.getfield idx, 3)) (hn : pc + 3 = n) (kk : gT l γ μ d cb sb R X K ρ m n ls (vR a :: st)) : gT l γ μ d cb sb R X K ρ m pc ls (vR r :: st) := tz_getO hf hk hd hn (by rw [hv]; exact kk)
end
theorem g_for (T : Nat → Prop) (N : Nat) (done : T N) (step : ∀ i, i < N → T (i + 1) → T i) : ∀ i, i ≤ N → T i := by
  intro i hi
  obtain ⟨k, hk⟩ : ∃ k, N = i + k := ⟨N - i, by omega⟩
  induction k generalizing i with
  | zero => rw [show i = N by omega]; exact done
  | succ k ih => exact step i (by omega) (ih (i + 1) (by omega) (by omega))
theorem g_ind {σ : Type} (I : σ → Prop) (f : σ → Nat) (T : σ → Prop) (h : ∀ s, I s → (∀ s', I s' → f s' < f s → T s') → T s) : ∀ s, I s → T s := by
  have : ∀ n s, f s < n → I s → T s := by
    intro n
    induction n with
    | zero => intro s hs; omega
    | succ n ih => intro s hs hI; exact h s hI fun s' hI' hl => ih s' (by omega) hI'
  exact fun s hI => this (f s + 1) s (by omega) hI
/-- a loop's number behind n rounds -/
def fd {α : Type} (f : Nat → α → α) (a : α) : Nat → α
  | 0 => a
  | n + 1 => f n (fd f a n)
