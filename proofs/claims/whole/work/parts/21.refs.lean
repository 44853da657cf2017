/-! ===== references that never change ===== -/
def srL : List (Nat × Nat × Int) := [(1, 0, 2), (1, 1, 9), (1, 2, 16), (1, 4, 23), (1, 5, 25), (1, 6, 51), (1, 7, 52), (1, 8, 60), (2, 4, 3), (2, 5, 4), (2, 6, 5), (2, 7, 6), (2, 8, 7), (2, 9, 8), (9, 4, 10), (9, 5, 11), (9, 6, 12), (9, 7, 13), (9, 8, 14), (9, 9, 15), (16, 4, 17), (16, 5, 18), (16, 6, 19), (16, 7, 20), (16, 8, 21), (16, 9, 22), (23, 0, 24), (25, 0, 26), (26, 0, 27), (27, 0, 28), (27, 1, 29), (27, 3, 30), (26, 1, 31), (31, 0, 32), (31, 1, 33), (31, 3, 34), (26, 2, 35), (35, 0, 36), (35, 1, 37), (35, 3, 38), (26, 3, 39), (39, 0, 40), (39, 1, 41), (39, 3, 42), (26, 4, 43), (43, 0, 44), (43, 1, 45), (43, 3, 46), (26, 5, 47), (47, 0, 48), (47, 1, 49), (47, 3, 50), (51, 0, 25), (52, 0, 51), (52, 1, 53), (52, 2, 54), (52, 4, 55), (52, 6, 56), (52, 7, 57), (52, 8, 58), (52, 9, 59), (60, 0, 61), (61, 0, 62), (60, 1, 63), (63, 0, 64), (60, 2, 65), (65, 0, 66), (60, 3, 67), (67, 0, 68), (69, 1, 70), (69, 2, 71), (69, 5, 72), (69, 8, 73), (69, 9, 74), (69, 11, 75), (69, 28, 76), (69, 29, 77), (69, 31, 78), (69, 32, 79), (69, 34, 80), (69, 35, 81), (69, 38, 82), (69, 39, 83), (69, 42, 84), (69, 43, 85), (69, 44, 86), (69, 49, 87), (69, 50, 88), (69, 51, 89), (69, 52, 90)]
def SR (M : Mm) : Prop := ∀ q ∈ srL, M q.1 q.2.1 = q.2.2
theorem SR.at {M : Mm} (h : SR M) (k : Nat) {i j : Nat} {v : Int} (hk : srL[k]? = some (i, j, v)) : M i j = v := h _ (List.mem_of_getElem? hk)
theorem sr_1_0 {M : Mm} (h : SR M) : M 1 0 = 2 := h.at 0 rfl
theorem sr_1_1 {M : Mm} (h : SR M) : M 1 1 = 9 := h.at 1 rfl
theorem sr_1_2 {M : Mm} (h : SR M) : M 1 2 = 16 := h.at 2 rfl
theorem sr_1_4 {M : Mm} (h : SR M) : M 1 4 = 23 := h.at 3 rfl
theorem sr_1_5 {M : Mm} (h : SR M) : M 1 5 = 25 := h.at 4 rfl
theorem sr_1_6 {M : Mm} (h : SR M) : M 1 6 = 51 := h.at 5 rfl
theorem sr_1_7 {M : Mm} (h : SR M) : M 1 7 = 52 := h.at 6 rfl
theorem sr_1_8 {M : Mm} (h : SR M) : M 1 8 = 60 := h.at 7 rfl
theorem sr_2_4 {M : Mm} (h : SR M) : M 2 4 = 3 := h.at 8 rfl
theorem sr_2_5 {M : Mm} (h : SR M) : M 2 5 = 4 := h.at 9 rfl
theorem sr_2_6 {M : Mm} (h : SR M) : M 2 6 = 5 := h.at 10 rfl
theorem sr_2_7 {M : Mm} (h : SR M) : M 2 7 = 6 := h.at 11 rfl
theorem sr_2_8 {M : Mm} (h : SR M) : M 2 8 = 7 := h.at 12 rfl
theorem sr_2_9 {M : Mm} (h : SR M) : M 2 9 = 8 := h.at 13 rfl
theorem sr_9_4 {M : Mm} (h : SR M) : M 9 4 = 10 := h.at 14 rfl
theorem sr_9_5 {M : Mm} (h : SR M) : M 9 5 = 11 := h.at 15 rfl
theorem sr_9_6 {M : Mm} (h : SR M) : M 9 6 = 12 := h.at 16 rfl
theorem sr_9_7 {M : Mm} (h : SR M) : M 9 7 = 13 := h.at 17 rfl
theorem sr_9_8 {M : Mm} (h : SR M) : M 9 8 = 14 := h.at 18 rfl
theorem sr_9_9 {M : Mm} (h : SR M) : M 9 9 = 15 := h.at 19 rfl
theorem sr_16_4 {M : Mm} (h : SR M) : M 16 4 = 17 := h.at 20 rfl
theorem sr_16_5 {M : Mm} (h : SR M) : M 16 5 = 18 := h.at 21 rfl
theorem sr_16_6 {M : Mm} (h : SR M) : M 16 6 = 19 := h.at 22 rfl
theorem sr_16_7 {M : Mm} (h : SR M) : M 16 7 = 20 := h.at 23 rfl
theorem sr_16_8 {M : Mm} (h : SR M) : M 16 8 = 21 := h.at 24 rfl
theorem sr_16_9 {M : Mm} (h : SR M) : M 16 9 = 22 := h.at 25 rfl
theorem sr_23_0 {M : Mm} (h : SR M) : M 23 0 = 24 := h.at 26 rfl
theorem sr_25_0 {M : Mm} (h : SR M) : M 25 0 = 26 := h.at 27 rfl
theorem sr_26_0 {M : Mm} (h : SR M) : M 26 0 = 27 := h.at 28 rfl
theorem sr_27_0 {M : Mm} (h : SR M) : M 27 0 = 28 := h.at 29 rfl
theorem sr_27_1 {M : Mm} (h : SR M) : M 27 1 = 29 := h.at 30 rfl
theorem sr_27_3 {M : Mm} (h : SR M) : M 27 3 = 30 := h.at 31 rfl
theorem sr_26_1 {M : Mm} (h : SR M) : M 26 1 = 31 := h.at 32 rfl
theorem sr_31_0 {M : Mm} (h : SR M) : M 31 0 = 32 := h.at 33 rfl
theorem sr_31_1 {M : Mm} (h : SR M) : M 31 1 = 33 := h.at 34 rfl
theorem sr_31_3 {M : Mm} (h : SR M) : M 31 3 = 34 := h.at 35 rfl
theorem sr_26_2 {M : Mm} (h : SR M) : M 26 2 = 35 := h.at 36 rfl
theorem sr_35_0 {M : Mm} (h : SR M) : M 35 0 = 36 := h.at 37 rfl
theorem sr_35_1 {M : Mm} (h : SR M) : M 35 1 = 37 := h.at 38 rfl
theorem sr_35_3 {M : Mm} (h : SR M) : M 35 3 = 38 := h.at 39 rfl
theorem sr_26_3 {M : Mm} (h : SR M) : M 26 3 = 39 := h.at 40 rfl
theorem sr_39_0 {M : Mm} (h : SR M) : M 39 0 = 40 := h.at 41 rfl
theorem sr_39_1 {M : Mm} (h : SR M) : M 39 1 = 41 := h.at 42 rfl
theorem sr_39_3 {M : Mm} (h : SR M) : M 39 3 = 42 := h.at 43 rfl
theorem sr_26_4 {M : Mm} (h : SR M) : M 26 4 = 43 := h.at 44 rfl
theorem sr_43_0 {M : Mm} (h : SR M) : M 43 0 = 44 := h.at 45 rfl
theorem sr_43_1 {M : Mm} (h : SR M) : M 43 1 = 45 := h.at 46 rfl
theorem sr_43_3 {M : Mm} (h : SR M) : M 43 3 = 46 := h.at 47 rfl
theorem sr_26_5 {M : Mm} (h : SR M) : M 26 5 = 47 := h.at 48 rfl
theorem sr_47_0 {M : Mm} (h : SR M) : M 47 0 = 48 := h.at 49 rfl
theorem sr_47_1 {M : Mm} (h : SR M) : M 47 1 = 49 := h.at 50 rfl
theorem sr_47_3 {M : Mm} (h : SR M) : M 47 3 = 50 := h.at 51 rfl
theorem sr_51_0 {M : Mm} (h : SR M) : M 51 0 = 25 := h.at 52 rfl
theorem sr_52_0 {M : Mm} (h : SR M) : M 52 0 = 51 := h.at 53 rfl
theorem sr_52_1 {M : Mm} (h : SR M) : M 52 1 = 53 := h.at 54 rfl
theorem sr_52_2 {M : Mm} (h : SR M) : M 52 2 = 54 := h.at 55 rfl
theorem sr_52_4 {M : Mm} (h : SR M) : M 52 4 = 55 := h.at 56 rfl
theorem sr_52_6 {M : Mm} (h : SR M) : M 52 6 = 56 := h.at 57 rfl
theorem sr_52_7 {M : Mm} (h : SR M) : M 52 7 = 57 := h.at 58 rfl
theorem sr_52_8 {M : Mm} (h : SR M) : M 52 8 = 58 := h.at 59 rfl
theorem sr_52_9 {M : Mm} (h : SR M) : M 52 9 = 59 := h.at 60 rfl
theorem sr_60_0 {M : Mm} (h : SR M) : M 60 0 = 61 := h.at 61 rfl
theorem sr_61_0 {M : Mm} (h : SR M) : M 61 0 = 62 := h.at 62 rfl
theorem sr_60_1 {M : Mm} (h : SR M) : M 60 1 = 63 := h.at 63 rfl
theorem sr_63_0 {M : Mm} (h : SR M) : M 63 0 = 64 := h.at 64 rfl
theorem sr_60_2 {M : Mm} (h : SR M) : M 60 2 = 65 := h.at 65 rfl
theorem sr_65_0 {M : Mm} (h : SR M) : M 65 0 = 66 := h.at 66 rfl
theorem sr_60_3 {M : Mm} (h : SR M) : M 60 3 = 67 := h.at 67 rfl
theorem sr_67_0 {M : Mm} (h : SR M) : M 67 0 = 68 := h.at 68 rfl
theorem sr_69_1 {M : Mm} (h : SR M) : M 69 1 = 70 := h.at 69 rfl
theorem sr_69_2 {M : Mm} (h : SR M) : M 69 2 = 71 := h.at 70 rfl
theorem sr_69_5 {M : Mm} (h : SR M) : M 69 5 = 72 := h.at 71 rfl
theorem sr_69_8 {M : Mm} (h : SR M) : M 69 8 = 73 := h.at 72 rfl
theorem sr_69_9 {M : Mm} (h : SR M) : M 69 9 = 74 := h.at 73 rfl
theorem sr_69_11 {M : Mm} (h : SR M) : M 69 11 = 75 := h.at 74 rfl
theorem sr_69_28 {M : Mm} (h : SR M) : M 69 28 = 76 := h.at 75 rfl
theorem sr_69_29 {M : Mm} (h : SR M) : M 69 29 = 77 := h.at 76 rfl
theorem sr_69_31 {M : Mm} (h : SR M) : M 69 31 = 78 := h.at 77 rfl
theorem sr_69_32 {M : Mm} (h : SR M) : M 69 32 = 79 := h.at 78 rfl
theorem sr_69_34 {M : Mm} (h : SR M) : M 69 34 = 80 := h.at 79 rfl
theorem sr_69_35 {M : Mm} (h : SR M) : M 69 35 = 81 := h.at 80 rfl
theorem sr_69_38 {M : Mm} (h : SR M) : M 69 38 = 82 := h.at 81 rfl
theorem sr_69_39 {M : Mm} (h : SR M) : M 69 39 = 83 := h.at 82 rfl
theorem sr_69_42 {M : Mm} (h : SR M) : M 69 42 = 84 := h.at 83 rfl
theorem sr_69_43 {M : Mm} (h : SR M) : M 69 43 = 85 := h.at 84 rfl
theorem sr_69_44 {M : Mm} (h : SR M) : M 69 44 = 86 := h.at 85 rfl
theorem sr_69_49 {M : Mm} (h : SR M) : M 69 49 = 87 := h.at 86 rfl
theorem sr_69_50 {M : Mm} (h : SR M) : M 69 50 = 88 := h.at 87 rfl
theorem sr_69_51 {M : Mm} (h : SR M) : M 69 51 = 89 := h.at 88 rfl
theorem sr_69_52 {M : Mm} (h : SR M) : M 69 52 = 90 := h.at 89 rfl
theorem SR.upd {M : Mm} {i j : Nat} {v : Int} (hne : ∀ q ∈ srL, ¬ (q.1 = i ∧ q.2.1 = j)) (h : SR M) : SR (mu M i j v) := by
  intro q hq
  have := hne q hq
  show (if q.1 = i then (if q.2.1 = j then v else M q.1 q.2.1) else M q.1 q.2.1) = q.2.2
  split
  · split
    · exact absurd ⟨by assumption, by assumption⟩ this
    · exact h q hq
  · exact h q hq
/-- a row: any place of it -/
theorem SR.row {M : Mm} {i j : Nat} {v : Int} (hne : ∀ q ∈ srL, ¬ q.1 = i) (h : SR M) : SR (mu M i j v) := SR.upd (fun q hq z => hne q hq z.1) h
/-- another memory, alike where the references stand -/
theorem SR.of {M M' : Mm} (h : SR M) (e : ∀ q ∈ srL, M' q.1 q.2.1 = M q.1 q.2.1) : SR M' := fun q hq => (e q hq).trans (h q hq)
