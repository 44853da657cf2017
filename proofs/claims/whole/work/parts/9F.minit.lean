/-! ===== the model's constructor ===== -/
def srH : List (Nat × Nat × Int) := [(60, 0, 61), (61, 0, 62), (60, 1, 63), (63, 0, 64), (60, 2, 65), (65, 0, 66), (60, 3, 67), (67, 0, 68), (69, 1, 70), (69, 2, 71), (69, 5, 72), (69, 8, 73), (69, 9, 74), (69, 11, 75), (69, 28, 76), (69, 29, 77), (69, 31, 78), (69, 32, 79), (69, 34, 80), (69, 35, 81), (69, 38, 82), (69, 39, 83), (69, 42, 84), (69, 43, 85), (69, 44, 86), (69, 49, 87), (69, 50, 88), (69, 51, 89), (69, 52, 90)]
theorem srH_eq : srL.filter (fun q => decide (60 ≤ q.1)) = srH := by decide +kernel
theorem SR_mk {M : Mm} (h1 : SRr M) (h60_0 : M 60 0 = 61) (h61_0 : M 61 0 = 62) (h60_1 : M 60 1 = 63) (h63_0 : M 63 0 = 64) (h60_2 : M 60 2 = 65) (h65_0 : M 65 0 = 66) (h60_3 : M 60 3 = 67) (h67_0 : M 67 0 = 68) (h69_1 : M 69 1 = 70) (h69_2 : M 69 2 = 71) (h69_5 : M 69 5 = 72) (h69_8 : M 69 8 = 73) (h69_9 : M 69 9 = 74) (h69_11 : M 69 11 = 75) (h69_28 : M 69 28 = 76) (h69_29 : M 69 29 = 77) (h69_31 : M 69 31 = 78) (h69_32 : M 69 32 = 79) (h69_34 : M 69 34 = 80) (h69_35 : M 69 35 = 81) (h69_38 : M 69 38 = 82) (h69_39 : M 69 39 = 83) (h69_42 : M 69 42 = 84) (h69_43 : M 69 43 = 85) (h69_44 : M 69 44 = 86) (h69_49 : M 69 49 = 87) (h69_50 : M 69 50 = 88) (h69_51 : M 69 51 = 89) (h69_52 : M 69 52 = 90) : SR M := by
  intro q hq
  by_cases c : q.1 < 60
  · exact h1 q (List.mem_filter.mpr ⟨hq, decide_eq_true c⟩)
  · have h : q ∈ srH := by rw [← srH_eq]; exact List.mem_filter.mpr ⟨hq, decide_eq_true (by omega)⟩
    unfold srH at h
    simp only [List.mem_cons, List.not_mem_nil, or_false] at h
    rcases h with rfl | rfl | rfl | rfl | rfl | rfl | rfl | rfl | rfl | rfl | rfl | rfl | rfl | rfl | rfl | rfl | rfl | rfl | rfl | rfl | rfl | rfl | rfl | rfl | rfl | rfl | rfl | rfl | rfl
    · exact h60_0
    · exact h61_0
    · exact h60_1
    · exact h63_0
    · exact h60_2
    · exact h65_0
    · exact h60_3
    · exact h67_0
    · exact h69_1
    · exact h69_2
    · exact h69_5
    · exact h69_8
    · exact h69_9
    · exact h69_11
    · exact h69_28
    · exact h69_29
    · exact h69_31
    · exact h69_32
    · exact h69_34
    · exact h69_35
    · exact h69_38
    · exact h69_39
    · exact h69_42
    · exact h69_43
    · exact h69_44
    · exact h69_49
    · exact h69_50
    · exact h69_51
    · exact h69_52
def INM (M M' : Mm) : Prop := SR M' ∧ Fr (fun i _ => 69 ≤ i) M M' ∧ M' 69 3 = 1 ∧ M' 69 4 = 0 ∧ M' 69 6 = 0 ∧ M' 69 7 = 0 ∧ M' 69 10 = 0 ∧ M' 69 12 = 0 ∧ M' 69 46 = -1 ∧ (∀ j : Nat, j < 48 → M' 70 j = fmT0 j) ∧ M' 71 0 = 48 ∧ ∀ s : Nat, s < 4 → M' 87 s = 0
set_option maxRecDepth 20000 in
set_option maxHeartbeats 4000000 in
theorem cm_init  {l : Launch} {g : Gw} {d : Nat} {M : Mm} {Q : Option Wd → Mm → Prop} (hd : 4 ≤ d) (hM : INI M) (k : ∀ M', INM M M' → Q none M') : Wp l g d 21 1663 69 m_X8_init 0 [] [(2, 69)] M Q := by
  refine wp_aload_n dX8_init_0 rfl rfl ?_
  refine wp_obj 69 rfl (by decide) ol_RX8_7 obj_i obj_c (by decide) (by omega) rfl dX8_init_1 ?_
  refine wp_aload_n dX8_init_4 rfl rfl ?_
  refine wp_sipush dX8_init_5 (by decide) (by decide) ?_
  refine wp_newa (t := 0) (a := 20) (b := 703) (c := 10) (N := 960) rfl (Or.inl ⟨rfl, rfl⟩) rfl (by decide) (by decide) arc_int dX8_init_8 ?_
  change Wp _ _ _ 20 703 70 _ _ ((2, 70) :: _) _ _ _
  refine wp_putFa 69 rfl fl_RX8_13 rfl ⟨by omega, by omega⟩ dX8_init_10 rfl (Or.inr ⟨_, rfl⟩) rfl rfl rfl (by omega) ?_
  refine wp_aload_n dX8_init_13 rfl rfl ?_
  refine wp_bipush dX8_init_14 (by decide) (by decide) ?_
  refine wp_newa (t := 0) (a := 19) (b := 697) (c := 10) (N := 6) rfl (Or.inl ⟨rfl, rfl⟩) rfl (by decide) (by decide) arc_int dX8_init_16 ?_
  change Wp _ _ _ 19 697 71 _ _ ((2, 71) :: _) _ _ _
  refine wp_putFa 69 rfl fl_RX8_17 rfl ⟨by omega, by omega⟩ dX8_init_18 rfl (Or.inr ⟨_, rfl⟩) rfl rfl rfl (by omega) ?_
  refine wp_aload_n dX8_init_21 rfl rfl ?_
  refine wp_sipush dX8_init_22 (by decide) (by decide) ?_
  refine wp_newa (t := 0) (a := 18) (b := 537) (c := 10) (N := 160) rfl (Or.inl ⟨rfl, rfl⟩) rfl (by decide) (by decide) arc_int dX8_init_25 ?_
  change Wp _ _ _ 18 537 72 _ _ ((2, 72) :: _) _ _ _
  refine wp_putFa 69 rfl fl_RX8_20 rfl ⟨by omega, by omega⟩ dX8_init_27 rfl (Or.inr ⟨_, rfl⟩) rfl rfl rfl (by omega) ?_
  refine wp_aload_n dX8_init_30 rfl rfl ?_
  refine wp_iconst dX8_init_31 (by decide) ?_
  refine wp_newa (t := 0) (a := 17) (b := 532) (c := 10) (N := 5) rfl (Or.inl ⟨rfl, rfl⟩) rfl (by decide) (by decide) arc_int dX8_init_32 ?_
  change Wp _ _ _ 17 532 73 _ _ ((2, 73) :: _) _ _ _
  refine wp_putFa 69 rfl fl_RX8_23 rfl ⟨by omega, by omega⟩ dX8_init_34 rfl (Or.inr ⟨_, rfl⟩) rfl rfl rfl (by omega) ?_
  refine wp_aload_n dX8_init_37 rfl rfl ?_
  refine wp_bipush dX8_init_38 (by decide) (by decide) ?_
  refine wp_newa (t := 0) (a := 16) (b := 512) (c := 10) (N := 20) rfl (Or.inl ⟨rfl, rfl⟩) rfl (by decide) (by decide) arc_int dX8_init_40 ?_
  change Wp _ _ _ 16 512 74 _ _ ((2, 74) :: _) _ _ _
  refine wp_putFa 69 rfl fl_RX8_26 rfl ⟨by omega, by omega⟩ dX8_init_42 rfl (Or.inr ⟨_, rfl⟩) rfl rfl rfl (by omega) ?_
  refine wp_aload_n dX8_init_45 rfl rfl ?_
  refine wp_iconst dX8_init_46 (by decide) ?_
  refine wp_newa (t := 0) (a := 15) (b := 507) (c := 10) (N := 5) rfl (Or.inl ⟨rfl, rfl⟩) rfl (by decide) (by decide) arc_int dX8_init_47 ?_
  change Wp _ _ _ 15 507 75 _ _ ((2, 75) :: _) _ _ _
  refine wp_putFa 69 rfl fl_RX8_29 rfl ⟨by omega, by omega⟩ dX8_init_49 rfl (Or.inr ⟨_, rfl⟩) rfl rfl rfl (by omega) ?_
  refine wp_aload_n dX8_init_52 rfl rfl ?_
  refine wp_bipush dX8_init_53 (by decide) (by decide) ?_
  refine wp_newa (t := 0) (a := 14) (b := 387) (c := 10) (N := 120) rfl (Or.inl ⟨rfl, rfl⟩) rfl (by decide) (by decide) arc_int dX8_init_55 ?_
  change Wp _ _ _ 14 387 76 _ _ ((2, 76) :: _) _ _ _
  refine wp_putFa 69 rfl fl_RX8_32 rfl ⟨by omega, by omega⟩ dX8_init_57 rfl (Or.inr ⟨_, rfl⟩) rfl rfl rfl (by omega) ?_
  refine wp_aload_n dX8_init_60 rfl rfl ?_
  refine wp_bipush dX8_init_61 (by decide) (by decide) ?_
  refine wp_newa (t := 0) (a := 13) (b := 267) (c := 10) (N := 120) rfl (Or.inl ⟨rfl, rfl⟩) rfl (by decide) (by decide) arc_int dX8_init_63 ?_
  change Wp _ _ _ 13 267 77 _ _ ((2, 77) :: _) _ _ _
  refine wp_putFa 69 rfl fl_RX8_35 rfl ⟨by omega, by omega⟩ dX8_init_65 rfl (Or.inr ⟨_, rfl⟩) rfl rfl rfl (by omega) ?_
  refine wp_aload_n dX8_init_68 rfl rfl ?_
  refine wp_bipush dX8_init_69 (by decide) (by decide) ?_
  refine wp_newa (t := 0) (a := 12) (b := 242) (c := 11) (N := 25) rfl (Or.inr ⟨rfl, rfl⟩) rfl (by decide) (by decide) arc_boolean dX8_init_71 ?_
  change Wp _ _ _ 12 242 78 _ _ ((2, 78) :: _) _ _ _
  refine wp_putFa 69 rfl fl_RX8_38 rfl ⟨by omega, by omega⟩ dX8_init_73 rfl (Or.inr ⟨_, rfl⟩) rfl rfl rfl (by omega) ?_
  refine wp_aload_n dX8_init_76 rfl rfl ?_
  refine wp_iconst dX8_init_77 (by decide) ?_
  refine wp_newa (t := 0) (a := 11) (b := 237) (c := 10) (N := 5) rfl (Or.inl ⟨rfl, rfl⟩) rfl (by decide) (by decide) arc_int dX8_init_78 ?_
  change Wp _ _ _ 11 237 79 _ _ ((2, 79) :: _) _ _ _
  refine wp_putFa 69 rfl fl_RX8_42 rfl ⟨by omega, by omega⟩ dX8_init_80 rfl (Or.inr ⟨_, rfl⟩) rfl rfl rfl (by omega) ?_
  refine wp_aload_n dX8_init_83 rfl rfl ?_
  refine wp_iconst dX8_init_84 (by decide) ?_
  refine wp_newa (t := 0) (a := 10) (b := 232) (c := 10) (N := 5) rfl (Or.inl ⟨rfl, rfl⟩) rfl (by decide) (by decide) arc_int dX8_init_85 ?_
  change Wp _ _ _ 10 232 80 _ _ ((2, 80) :: _) _ _ _
  refine wp_putFa 69 rfl fl_RX8_45 rfl ⟨by omega, by omega⟩ dX8_init_87 rfl (Or.inr ⟨_, rfl⟩) rfl rfl rfl (by omega) ?_
  refine wp_aload_n dX8_init_90 rfl rfl ?_
  refine wp_iconst dX8_init_91 (by decide) ?_
  refine wp_newa (t := 0) (a := 9) (b := 227) (c := 10) (N := 5) rfl (Or.inl ⟨rfl, rfl⟩) rfl (by decide) (by decide) arc_int dX8_init_92 ?_
  change Wp _ _ _ 9 227 81 _ _ ((2, 81) :: _) _ _ _
  refine wp_putFa 69 rfl fl_RX8_48 rfl ⟨by omega, by omega⟩ dX8_init_94 rfl (Or.inr ⟨_, rfl⟩) rfl rfl rfl (by omega) ?_
  refine wp_aload_n dX8_init_97 rfl rfl ?_
  refine wp_iconst dX8_init_98 (by decide) ?_
  refine wp_newa (t := 0) (a := 8) (b := 222) (c := 10) (N := 5) rfl (Or.inl ⟨rfl, rfl⟩) rfl (by decide) (by decide) arc_int dX8_init_99 ?_
  change Wp _ _ _ 8 222 82 _ _ ((2, 82) :: _) _ _ _
  refine wp_putFa 69 rfl fl_RX8_51 rfl ⟨by omega, by omega⟩ dX8_init_101 rfl (Or.inr ⟨_, rfl⟩) rfl rfl rfl (by omega) ?_
  refine wp_aload_n dX8_init_104 rfl rfl ?_
  refine wp_bipush dX8_init_105 (by decide) (by decide) ?_
  refine wp_newa (t := 0) (a := 7) (b := 202) (c := 10) (N := 20) rfl (Or.inl ⟨rfl, rfl⟩) rfl (by decide) (by decide) arc_int dX8_init_107 ?_
  change Wp _ _ _ 7 202 83 _ _ ((2, 83) :: _) _ _ _
  refine wp_putFa 69 rfl fl_RX8_54 rfl ⟨by omega, by omega⟩ dX8_init_109 rfl (Or.inr ⟨_, rfl⟩) rfl rfl rfl (by omega) ?_
  refine wp_aload_n dX8_init_112 rfl rfl ?_
  refine wp_iconst dX8_init_113 (by decide) ?_
  refine wp_newa (t := 0) (a := 6) (b := 197) (c := 10) (N := 5) rfl (Or.inl ⟨rfl, rfl⟩) rfl (by decide) (by decide) arc_int dX8_init_114 ?_
  change Wp _ _ _ 6 197 84 _ _ ((2, 84) :: _) _ _ _
  refine wp_putFa 69 rfl fl_RX8_57 rfl ⟨by omega, by omega⟩ dX8_init_116 rfl (Or.inr ⟨_, rfl⟩) rfl rfl rfl (by omega) ?_
  refine wp_aload_n dX8_init_119 rfl rfl ?_
  refine wp_iconst dX8_init_120 (by decide) ?_
  refine wp_newa (t := 0) (a := 5) (b := 192) (c := 10) (N := 5) rfl (Or.inl ⟨rfl, rfl⟩) rfl (by decide) (by decide) arc_int dX8_init_121 ?_
  change Wp _ _ _ 5 192 85 _ _ ((2, 85) :: _) _ _ _
  refine wp_putFa 69 rfl fl_RX8_60 rfl ⟨by omega, by omega⟩ dX8_init_123 rfl (Or.inr ⟨_, rfl⟩) rfl rfl rfl (by omega) ?_
  refine wp_aload_n dX8_init_126 rfl rfl ?_
  refine wp_bipush dX8_init_127 (by decide) (by decide) ?_
  refine wp_newa (t := 0) (a := 4) (b := 172) (c := 10) (N := 20) rfl (Or.inl ⟨rfl, rfl⟩) rfl (by decide) (by decide) arc_int dX8_init_129 ?_
  change Wp _ _ _ 4 172 86 _ _ ((2, 86) :: _) _ _ _
  refine wp_putFa 69 rfl fl_RX8_63 rfl ⟨by omega, by omega⟩ dX8_init_131 rfl (Or.inr ⟨_, rfl⟩) rfl rfl rfl (by omega) ?_
  refine wp_aload_n dX8_init_134 rfl rfl ?_
  refine wp_iconst dX8_init_135 (by decide) ?_
  refine wp_puti 69 rfl fl_RX8_66 rfl ⟨by omega, by omega⟩ dX8_init_136 rfl rfl ?_
  refine wp_aload_n dX8_init_139 rfl rfl ?_
  refine wp_iconst dX8_init_140 (by decide) ?_
  refine wp_newa (t := 0) (a := 3) (b := 168) (c := 11) (N := 4) rfl (Or.inr ⟨rfl, rfl⟩) rfl (by decide) (by decide) arc_boolean dX8_init_141 ?_
  change Wp _ _ _ 3 168 87 _ _ ((2, 87) :: _) _ _ _
  refine wp_putFa 69 rfl fl_RX8_69 rfl ⟨by omega, by omega⟩ dX8_init_143 rfl (Or.inr ⟨_, rfl⟩) rfl rfl rfl (by omega) ?_
  refine wp_aload_n dX8_init_146 rfl rfl ?_
  refine wp_iconst dX8_init_147 (by decide) ?_
  refine wp_newa (t := 0) (a := 2) (b := 164) (c := 10) (N := 4) rfl (Or.inl ⟨rfl, rfl⟩) rfl (by decide) (by decide) arc_int dX8_init_148 ?_
  change Wp _ _ _ 2 164 88 _ _ ((2, 88) :: _) _ _ _
  refine wp_putFa 69 rfl fl_RX8_72 rfl ⟨by omega, by omega⟩ dX8_init_150 rfl (Or.inr ⟨_, rfl⟩) rfl rfl rfl (by omega) ?_
  refine wp_aload_n dX8_init_153 rfl rfl ?_
  refine wp_iconst dX8_init_154 (by decide) ?_
  refine wp_newa (t := 0) (a := 1) (b := 160) (c := 10) (N := 4) rfl (Or.inl ⟨rfl, rfl⟩) rfl (by decide) (by decide) arc_int dX8_init_155 ?_
  change Wp _ _ _ 1 160 89 _ _ ((2, 89) :: _) _ _ _
  refine wp_putFa 69 rfl fl_RX8_75 rfl ⟨by omega, by omega⟩ dX8_init_157 rfl (Or.inr ⟨_, rfl⟩) rfl rfl rfl (by omega) ?_
  refine wp_aload_n dX8_init_160 rfl rfl ?_
  refine wp_sipush dX8_init_161 (by decide) (by decide) ?_
  refine wp_newa (t := 0) (a := 0) (b := 0) (c := 10) (N := 160) rfl (Or.inl ⟨rfl, rfl⟩) rfl (by decide) (by decide) arc_int dX8_init_164 ?_
  change Wp _ _ _ 0 0 90 _ _ ((2, 90) :: _) _ _ _
  refine wp_putFa 69 rfl fl_RX8_78 rfl ⟨by omega, by omega⟩ dX8_init_166 rfl (Or.inr ⟨_, rfl⟩) rfl rfl rfl (by omega) ?_
  refine wp_aload_n dX8_init_169 rfl rfl ?_
  refine wp_iconst dX8_init_170 (by decide) ?_
  refine wp_bipush dX8_init_171 (by decide) (by decide) ?_
  refine wp_bipush dX8_init_173 (by decide) (by decide) ?_
  refine wp_bipush dX8_init_175 (by decide) (by decide) ?_
  refine wp_bipush dX8_init_177 (by decide) (by decide) ?_
  refine wp_bipush dX8_init_179 (by decide) (by decide) ?_
  refine wp_bipush dX8_init_181 (by decide) (by decide) ?_
  refine wp_bipush dX8_init_183 (by decide) (by decide) ?_
  refine wp_bipush dX8_init_185 (by decide) (by decide) ?_
  refine wp_callV0 (d' := d - 1) cv_RX8_81 69 rfl [(0, 0), (0, 109), (0, 105), (0, 110), (0, 100), (0, 115), (0, 32), (0, 110), (0, 111)] [] rfl rfl (Or.inl ⟨_, _, rfl, by decide, rfl, by omega, by omega⟩) (by omega) (Nat.le_of_ble_eq_true rfl) dX8_init_187 rfl (Nat.le_of_ble_eq_true rfl) (by omega) (loc1 := [(2, 69), (0, 0), (0, 109), (0, 105), (0, 110), (0, 100), (0, 115), (0, 32), (0, 110), (0, 111)]) rfl ?_
  refine wp_aload_n dX8_spell_0 rfl rfl ?_
  refine wp_get 69 rfl fl_RX8_13 rfl ⟨by omega, by omega⟩ dX8_spell_1 rfl (v := 70) (rfl) ?_
  refine wp_iload_n dX8_spell_4 rfl rfl ?_
  refine wp_iload_n dX8_spell_5 rfl rfl ?_
  refine wp_iast 70 rfl rfl ⟨by omega, by omega⟩ ⟨by omega, by omega⟩ dX8_spell_6 (jn := 0) rfl ?_
  refine wp_aload_n dX8_spell_7 rfl rfl ?_
  refine wp_get 69 rfl fl_RX8_13 rfl ⟨by omega, by omega⟩ dX8_spell_8 rfl (v := 70) (rfl) ?_
  refine wp_iload_n dX8_spell_11 rfl rfl ?_
  refine wp_iconst dX8_spell_12 (by decide) ?_
  refine wp_iadd dX8_spell_13 (by omega) ?_
  refine wp_iload_n dX8_spell_14 rfl rfl ?_
  refine wp_iast 70 rfl rfl ⟨by omega, by omega⟩ ⟨by omega, by omega⟩ dX8_spell_15 (jn := 1) rfl ?_
  refine wp_aload_n dX8_spell_16 rfl rfl ?_
  refine wp_get 69 rfl fl_RX8_13 rfl ⟨by omega, by omega⟩ dX8_spell_17 rfl (v := 70) (rfl) ?_
  refine wp_iload_n dX8_spell_20 rfl rfl ?_
  refine wp_iconst dX8_spell_21 (by decide) ?_
  refine wp_iadd dX8_spell_22 (by omega) ?_
  refine wp_iload dX8_spell_23 rfl ?_
  refine wp_iast 70 rfl rfl ⟨by omega, by omega⟩ ⟨by omega, by omega⟩ dX8_spell_25 (jn := 2) rfl ?_
  refine wp_aload_n dX8_spell_26 rfl rfl ?_
  refine wp_get 69 rfl fl_RX8_13 rfl ⟨by omega, by omega⟩ dX8_spell_27 rfl (v := 70) (rfl) ?_
  refine wp_iload_n dX8_spell_30 rfl rfl ?_
  refine wp_iconst dX8_spell_31 (by decide) ?_
  refine wp_iadd dX8_spell_32 (by omega) ?_
  refine wp_iload dX8_spell_33 rfl ?_
  refine wp_iast 70 rfl rfl ⟨by omega, by omega⟩ ⟨by omega, by omega⟩ dX8_spell_35 (jn := 3) rfl ?_
  refine wp_aload_n dX8_spell_36 rfl rfl ?_
  refine wp_get 69 rfl fl_RX8_13 rfl ⟨by omega, by omega⟩ dX8_spell_37 rfl (v := 70) (rfl) ?_
  refine wp_iload_n dX8_spell_40 rfl rfl ?_
  refine wp_iconst dX8_spell_41 (by decide) ?_
  refine wp_iadd dX8_spell_42 (by omega) ?_
  refine wp_iload dX8_spell_43 rfl ?_
  refine wp_iast 70 rfl rfl ⟨by omega, by omega⟩ ⟨by omega, by omega⟩ dX8_spell_45 (jn := 4) rfl ?_
  refine wp_aload_n dX8_spell_46 rfl rfl ?_
  refine wp_get 69 rfl fl_RX8_13 rfl ⟨by omega, by omega⟩ dX8_spell_47 rfl (v := 70) (rfl) ?_
  refine wp_iload_n dX8_spell_50 rfl rfl ?_
  refine wp_iconst dX8_spell_51 (by decide) ?_
  refine wp_iadd dX8_spell_52 (by omega) ?_
  refine wp_iload dX8_spell_53 rfl ?_
  refine wp_iast 70 rfl rfl ⟨by omega, by omega⟩ ⟨by omega, by omega⟩ dX8_spell_55 (jn := 5) rfl ?_
  refine wp_aload_n dX8_spell_56 rfl rfl ?_
  refine wp_get 69 rfl fl_RX8_13 rfl ⟨by omega, by omega⟩ dX8_spell_57 rfl (v := 70) (rfl) ?_
  refine wp_iload_n dX8_spell_60 rfl rfl ?_
  refine wp_bipush dX8_spell_61 (by decide) (by decide) ?_
  refine wp_iadd dX8_spell_63 (by omega) ?_
  refine wp_iload dX8_spell_64 rfl ?_
  refine wp_iast 70 rfl rfl ⟨by omega, by omega⟩ ⟨by omega, by omega⟩ dX8_spell_66 (jn := 6) rfl ?_
  refine wp_aload_n dX8_spell_67 rfl rfl ?_
  refine wp_get 69 rfl fl_RX8_13 rfl ⟨by omega, by omega⟩ dX8_spell_68 rfl (v := 70) (rfl) ?_
  refine wp_iload_n dX8_spell_71 rfl rfl ?_
  refine wp_bipush dX8_spell_72 (by decide) (by decide) ?_
  refine wp_iadd dX8_spell_74 (by omega) ?_
  refine wp_iload dX8_spell_75 rfl ?_
  refine wp_iast 70 rfl rfl ⟨by omega, by omega⟩ ⟨by omega, by omega⟩ dX8_spell_77 (jn := 7) rfl ?_
  refine wp_vret rfl dX8_spell_78 ?_
  refine wp_aload_n dX8_init_190 rfl rfl ?_
  refine wp_bipush dX8_init_191 (by decide) (by decide) ?_
  refine wp_bipush dX8_init_193 (by decide) (by decide) ?_
  refine wp_bipush dX8_init_195 (by decide) (by decide) ?_
  refine wp_bipush dX8_init_197 (by decide) (by decide) ?_
  refine wp_bipush dX8_init_199 (by decide) (by decide) ?_
  refine wp_bipush dX8_init_201 (by decide) (by decide) ?_
  refine wp_bipush dX8_init_203 (by decide) (by decide) ?_
  refine wp_bipush dX8_init_205 (by decide) (by decide) ?_
  refine wp_bipush dX8_init_207 (by decide) (by decide) ?_
  refine wp_callV0 (d' := d - 1) cv_RX8_81 69 rfl [(0, 8), (0, 116), (0, 32), (0, 108), (0, 105), (0, 107), (0, 101), (0, 100), (0, 32)] [] rfl rfl (Or.inl ⟨_, _, rfl, by decide, rfl, by omega, by omega⟩) (by omega) (Nat.le_of_ble_eq_true rfl) dX8_init_209 rfl (Nat.le_of_ble_eq_true rfl) (by omega) (loc1 := [(2, 69), (0, 8), (0, 116), (0, 32), (0, 108), (0, 105), (0, 107), (0, 101), (0, 100), (0, 32)]) rfl ?_
  refine wp_aload_n dX8_spell_0 rfl rfl ?_
  refine wp_get 69 rfl fl_RX8_13 rfl ⟨by omega, by omega⟩ dX8_spell_1 rfl (v := 70) (rfl) ?_
  refine wp_iload_n dX8_spell_4 rfl rfl ?_
  refine wp_iload_n dX8_spell_5 rfl rfl ?_
  refine wp_iast 70 rfl rfl ⟨by omega, by omega⟩ ⟨by omega, by omega⟩ dX8_spell_6 (jn := 8) rfl ?_
  refine wp_aload_n dX8_spell_7 rfl rfl ?_
  refine wp_get 69 rfl fl_RX8_13 rfl ⟨by omega, by omega⟩ dX8_spell_8 rfl (v := 70) (rfl) ?_
  refine wp_iload_n dX8_spell_11 rfl rfl ?_
  refine wp_iconst dX8_spell_12 (by decide) ?_
  refine wp_iadd dX8_spell_13 (by omega) ?_
  refine wp_iload_n dX8_spell_14 rfl rfl ?_
  refine wp_iast 70 rfl rfl ⟨by omega, by omega⟩ ⟨by omega, by omega⟩ dX8_spell_15 (jn := 9) rfl ?_
  refine wp_aload_n dX8_spell_16 rfl rfl ?_
  refine wp_get 69 rfl fl_RX8_13 rfl ⟨by omega, by omega⟩ dX8_spell_17 rfl (v := 70) (rfl) ?_
  refine wp_iload_n dX8_spell_20 rfl rfl ?_
  refine wp_iconst dX8_spell_21 (by decide) ?_
  refine wp_iadd dX8_spell_22 (by omega) ?_
  refine wp_iload dX8_spell_23 rfl ?_
  refine wp_iast 70 rfl rfl ⟨by omega, by omega⟩ ⟨by omega, by omega⟩ dX8_spell_25 (jn := 10) rfl ?_
  refine wp_aload_n dX8_spell_26 rfl rfl ?_
  refine wp_get 69 rfl fl_RX8_13 rfl ⟨by omega, by omega⟩ dX8_spell_27 rfl (v := 70) (rfl) ?_
  refine wp_iload_n dX8_spell_30 rfl rfl ?_
  refine wp_iconst dX8_spell_31 (by decide) ?_
  refine wp_iadd dX8_spell_32 (by omega) ?_
  refine wp_iload dX8_spell_33 rfl ?_
  refine wp_iast 70 rfl rfl ⟨by omega, by omega⟩ ⟨by omega, by omega⟩ dX8_spell_35 (jn := 11) rfl ?_
  refine wp_aload_n dX8_spell_36 rfl rfl ?_
  refine wp_get 69 rfl fl_RX8_13 rfl ⟨by omega, by omega⟩ dX8_spell_37 rfl (v := 70) (rfl) ?_
  refine wp_iload_n dX8_spell_40 rfl rfl ?_
  refine wp_iconst dX8_spell_41 (by decide) ?_
  refine wp_iadd dX8_spell_42 (by omega) ?_
  refine wp_iload dX8_spell_43 rfl ?_
  refine wp_iast 70 rfl rfl ⟨by omega, by omega⟩ ⟨by omega, by omega⟩ dX8_spell_45 (jn := 12) rfl ?_
  refine wp_aload_n dX8_spell_46 rfl rfl ?_
  refine wp_get 69 rfl fl_RX8_13 rfl ⟨by omega, by omega⟩ dX8_spell_47 rfl (v := 70) (rfl) ?_
  refine wp_iload_n dX8_spell_50 rfl rfl ?_
  refine wp_iconst dX8_spell_51 (by decide) ?_
  refine wp_iadd dX8_spell_52 (by omega) ?_
  refine wp_iload dX8_spell_53 rfl ?_
  refine wp_iast 70 rfl rfl ⟨by omega, by omega⟩ ⟨by omega, by omega⟩ dX8_spell_55 (jn := 13) rfl ?_
  refine wp_aload_n dX8_spell_56 rfl rfl ?_
  refine wp_get 69 rfl fl_RX8_13 rfl ⟨by omega, by omega⟩ dX8_spell_57 rfl (v := 70) (rfl) ?_
  refine wp_iload_n dX8_spell_60 rfl rfl ?_
  refine wp_bipush dX8_spell_61 (by decide) (by decide) ?_
  refine wp_iadd dX8_spell_63 (by omega) ?_
  refine wp_iload dX8_spell_64 rfl ?_
  refine wp_iast 70 rfl rfl ⟨by omega, by omega⟩ ⟨by omega, by omega⟩ dX8_spell_66 (jn := 14) rfl ?_
  refine wp_aload_n dX8_spell_67 rfl rfl ?_
  refine wp_get 69 rfl fl_RX8_13 rfl ⟨by omega, by omega⟩ dX8_spell_68 rfl (v := 70) (rfl) ?_
  refine wp_iload_n dX8_spell_71 rfl rfl ?_
  refine wp_bipush dX8_spell_72 (by decide) (by decide) ?_
  refine wp_iadd dX8_spell_74 (by omega) ?_
  refine wp_iload dX8_spell_75 rfl ?_
  refine wp_iast 70 rfl rfl ⟨by omega, by omega⟩ ⟨by omega, by omega⟩ dX8_spell_77 (jn := 15) rfl ?_
  refine wp_vret rfl dX8_spell_78 ?_
  refine wp_aload_n dX8_init_212 rfl rfl ?_
  refine wp_bipush dX8_init_213 (by decide) (by decide) ?_
  refine wp_bipush dX8_init_215 (by decide) (by decide) ?_
  refine wp_bipush dX8_init_217 (by decide) (by decide) ?_
  refine wp_bipush dX8_init_219 (by decide) (by decide) ?_
  refine wp_bipush dX8_init_221 (by decide) (by decide) ?_
  refine wp_bipush dX8_init_223 (by decide) (by decide) ?_
  refine wp_bipush dX8_init_225 (by decide) (by decide) ?_
  refine wp_bipush dX8_init_227 (by decide) (by decide) ?_
  refine wp_bipush dX8_init_229 (by decide) (by decide) ?_
  refine wp_callV0 (d' := d - 1) cv_RX8_81 69 rfl [(0, 16), (0, 59), (0, 32), (0, 108), (0, 97), (0, 115), (0, 116), (0, 115), (0, 32)] [] rfl rfl (Or.inl ⟨_, _, rfl, by decide, rfl, by omega, by omega⟩) (by omega) (Nat.le_of_ble_eq_true rfl) dX8_init_231 rfl (Nat.le_of_ble_eq_true rfl) (by omega) (loc1 := [(2, 69), (0, 16), (0, 59), (0, 32), (0, 108), (0, 97), (0, 115), (0, 116), (0, 115), (0, 32)]) rfl ?_
  refine wp_aload_n dX8_spell_0 rfl rfl ?_
  refine wp_get 69 rfl fl_RX8_13 rfl ⟨by omega, by omega⟩ dX8_spell_1 rfl (v := 70) (rfl) ?_
  refine wp_iload_n dX8_spell_4 rfl rfl ?_
  refine wp_iload_n dX8_spell_5 rfl rfl ?_
  refine wp_iast 70 rfl rfl ⟨by omega, by omega⟩ ⟨by omega, by omega⟩ dX8_spell_6 (jn := 16) rfl ?_
  refine wp_aload_n dX8_spell_7 rfl rfl ?_
  refine wp_get 69 rfl fl_RX8_13 rfl ⟨by omega, by omega⟩ dX8_spell_8 rfl (v := 70) (rfl) ?_
  refine wp_iload_n dX8_spell_11 rfl rfl ?_
  refine wp_iconst dX8_spell_12 (by decide) ?_
  refine wp_iadd dX8_spell_13 (by omega) ?_
  refine wp_iload_n dX8_spell_14 rfl rfl ?_
  refine wp_iast 70 rfl rfl ⟨by omega, by omega⟩ ⟨by omega, by omega⟩ dX8_spell_15 (jn := 17) rfl ?_
  refine wp_aload_n dX8_spell_16 rfl rfl ?_
  refine wp_get 69 rfl fl_RX8_13 rfl ⟨by omega, by omega⟩ dX8_spell_17 rfl (v := 70) (rfl) ?_
  refine wp_iload_n dX8_spell_20 rfl rfl ?_
  refine wp_iconst dX8_spell_21 (by decide) ?_
  refine wp_iadd dX8_spell_22 (by omega) ?_
  refine wp_iload dX8_spell_23 rfl ?_
  refine wp_iast 70 rfl rfl ⟨by omega, by omega⟩ ⟨by omega, by omega⟩ dX8_spell_25 (jn := 18) rfl ?_
  refine wp_aload_n dX8_spell_26 rfl rfl ?_
  refine wp_get 69 rfl fl_RX8_13 rfl ⟨by omega, by omega⟩ dX8_spell_27 rfl (v := 70) (rfl) ?_
  refine wp_iload_n dX8_spell_30 rfl rfl ?_
  refine wp_iconst dX8_spell_31 (by decide) ?_
  refine wp_iadd dX8_spell_32 (by omega) ?_
  refine wp_iload dX8_spell_33 rfl ?_
  refine wp_iast 70 rfl rfl ⟨by omega, by omega⟩ ⟨by omega, by omega⟩ dX8_spell_35 (jn := 19) rfl ?_
  refine wp_aload_n dX8_spell_36 rfl rfl ?_
  refine wp_get 69 rfl fl_RX8_13 rfl ⟨by omega, by omega⟩ dX8_spell_37 rfl (v := 70) (rfl) ?_
  refine wp_iload_n dX8_spell_40 rfl rfl ?_
  refine wp_iconst dX8_spell_41 (by decide) ?_
  refine wp_iadd dX8_spell_42 (by omega) ?_
  refine wp_iload dX8_spell_43 rfl ?_
  refine wp_iast 70 rfl rfl ⟨by omega, by omega⟩ ⟨by omega, by omega⟩ dX8_spell_45 (jn := 20) rfl ?_
  refine wp_aload_n dX8_spell_46 rfl rfl ?_
  refine wp_get 69 rfl fl_RX8_13 rfl ⟨by omega, by omega⟩ dX8_spell_47 rfl (v := 70) (rfl) ?_
  refine wp_iload_n dX8_spell_50 rfl rfl ?_
  refine wp_iconst dX8_spell_51 (by decide) ?_
  refine wp_iadd dX8_spell_52 (by omega) ?_
  refine wp_iload dX8_spell_53 rfl ?_
  refine wp_iast 70 rfl rfl ⟨by omega, by omega⟩ ⟨by omega, by omega⟩ dX8_spell_55 (jn := 21) rfl ?_
  refine wp_aload_n dX8_spell_56 rfl rfl ?_
  refine wp_get 69 rfl fl_RX8_13 rfl ⟨by omega, by omega⟩ dX8_spell_57 rfl (v := 70) (rfl) ?_
  refine wp_iload_n dX8_spell_60 rfl rfl ?_
  refine wp_bipush dX8_spell_61 (by decide) (by decide) ?_
  refine wp_iadd dX8_spell_63 (by omega) ?_
  refine wp_iload dX8_spell_64 rfl ?_
  refine wp_iast 70 rfl rfl ⟨by omega, by omega⟩ ⟨by omega, by omega⟩ dX8_spell_66 (jn := 22) rfl ?_
  refine wp_aload_n dX8_spell_67 rfl rfl ?_
  refine wp_get 69 rfl fl_RX8_13 rfl ⟨by omega, by omega⟩ dX8_spell_68 rfl (v := 70) (rfl) ?_
  refine wp_iload_n dX8_spell_71 rfl rfl ?_
  refine wp_bipush dX8_spell_72 (by decide) (by decide) ?_
  refine wp_iadd dX8_spell_74 (by omega) ?_
  refine wp_iload dX8_spell_75 rfl ?_
  refine wp_iast 70 rfl rfl ⟨by omega, by omega⟩ ⟨by omega, by omega⟩ dX8_spell_77 (jn := 23) rfl ?_
  refine wp_vret rfl dX8_spell_78 ?_
  refine wp_aload_n dX8_init_234 rfl rfl ?_
  refine wp_bipush dX8_init_235 (by decide) (by decide) ?_
  refine wp_bipush dX8_init_237 (by decide) (by decide) ?_
  refine wp_bipush dX8_init_239 (by decide) (by decide) ?_
  refine wp_bipush dX8_init_241 (by decide) (by decide) ?_
  refine wp_bipush dX8_init_243 (by decide) (by decide) ?_
  refine wp_bipush dX8_init_245 (by decide) (by decide) ?_
  refine wp_bipush dX8_init_247 (by decide) (by decide) ?_
  refine wp_bipush dX8_init_249 (by decide) (by decide) ?_
  refine wp_bipush dX8_init_251 (by decide) (by decide) ?_
  refine wp_callV0 (d' := d - 1) cv_RX8_81 69 rfl [(0, 24), (0, 51), (0, 32), (0, 43), (0, 32), (0, 110), (0, 117), (0, 109), (0, 98)] [] rfl rfl (Or.inl ⟨_, _, rfl, by decide, rfl, by omega, by omega⟩) (by omega) (Nat.le_of_ble_eq_true rfl) dX8_init_253 rfl (Nat.le_of_ble_eq_true rfl) (by omega) (loc1 := [(2, 69), (0, 24), (0, 51), (0, 32), (0, 43), (0, 32), (0, 110), (0, 117), (0, 109), (0, 98)]) rfl ?_
  refine wp_aload_n dX8_spell_0 rfl rfl ?_
  refine wp_get 69 rfl fl_RX8_13 rfl ⟨by omega, by omega⟩ dX8_spell_1 rfl (v := 70) (rfl) ?_
  refine wp_iload_n dX8_spell_4 rfl rfl ?_
  refine wp_iload_n dX8_spell_5 rfl rfl ?_
  refine wp_iast 70 rfl rfl ⟨by omega, by omega⟩ ⟨by omega, by omega⟩ dX8_spell_6 (jn := 24) rfl ?_
  refine wp_aload_n dX8_spell_7 rfl rfl ?_
  refine wp_get 69 rfl fl_RX8_13 rfl ⟨by omega, by omega⟩ dX8_spell_8 rfl (v := 70) (rfl) ?_
  refine wp_iload_n dX8_spell_11 rfl rfl ?_
  refine wp_iconst dX8_spell_12 (by decide) ?_
  refine wp_iadd dX8_spell_13 (by omega) ?_
  refine wp_iload_n dX8_spell_14 rfl rfl ?_
  refine wp_iast 70 rfl rfl ⟨by omega, by omega⟩ ⟨by omega, by omega⟩ dX8_spell_15 (jn := 25) rfl ?_
  refine wp_aload_n dX8_spell_16 rfl rfl ?_
  refine wp_get 69 rfl fl_RX8_13 rfl ⟨by omega, by omega⟩ dX8_spell_17 rfl (v := 70) (rfl) ?_
  refine wp_iload_n dX8_spell_20 rfl rfl ?_
  refine wp_iconst dX8_spell_21 (by decide) ?_
  refine wp_iadd dX8_spell_22 (by omega) ?_
  refine wp_iload dX8_spell_23 rfl ?_
  refine wp_iast 70 rfl rfl ⟨by omega, by omega⟩ ⟨by omega, by omega⟩ dX8_spell_25 (jn := 26) rfl ?_
  refine wp_aload_n dX8_spell_26 rfl rfl ?_
  refine wp_get 69 rfl fl_RX8_13 rfl ⟨by omega, by omega⟩ dX8_spell_27 rfl (v := 70) (rfl) ?_
  refine wp_iload_n dX8_spell_30 rfl rfl ?_
  refine wp_iconst dX8_spell_31 (by decide) ?_
  refine wp_iadd dX8_spell_32 (by omega) ?_
  refine wp_iload dX8_spell_33 rfl ?_
  refine wp_iast 70 rfl rfl ⟨by omega, by omega⟩ ⟨by omega, by omega⟩ dX8_spell_35 (jn := 27) rfl ?_
  refine wp_aload_n dX8_spell_36 rfl rfl ?_
  refine wp_get 69 rfl fl_RX8_13 rfl ⟨by omega, by omega⟩ dX8_spell_37 rfl (v := 70) (rfl) ?_
  refine wp_iload_n dX8_spell_40 rfl rfl ?_
  refine wp_iconst dX8_spell_41 (by decide) ?_
  refine wp_iadd dX8_spell_42 (by omega) ?_
  refine wp_iload dX8_spell_43 rfl ?_
  refine wp_iast 70 rfl rfl ⟨by omega, by omega⟩ ⟨by omega, by omega⟩ dX8_spell_45 (jn := 28) rfl ?_
  refine wp_aload_n dX8_spell_46 rfl rfl ?_
  refine wp_get 69 rfl fl_RX8_13 rfl ⟨by omega, by omega⟩ dX8_spell_47 rfl (v := 70) (rfl) ?_
  refine wp_iload_n dX8_spell_50 rfl rfl ?_
  refine wp_iconst dX8_spell_51 (by decide) ?_
  refine wp_iadd dX8_spell_52 (by omega) ?_
  refine wp_iload dX8_spell_53 rfl ?_
  refine wp_iast 70 rfl rfl ⟨by omega, by omega⟩ ⟨by omega, by omega⟩ dX8_spell_55 (jn := 29) rfl ?_
  refine wp_aload_n dX8_spell_56 rfl rfl ?_
  refine wp_get 69 rfl fl_RX8_13 rfl ⟨by omega, by omega⟩ dX8_spell_57 rfl (v := 70) (rfl) ?_
  refine wp_iload_n dX8_spell_60 rfl rfl ?_
  refine wp_bipush dX8_spell_61 (by decide) (by decide) ?_
  refine wp_iadd dX8_spell_63 (by omega) ?_
  refine wp_iload dX8_spell_64 rfl ?_
  refine wp_iast 70 rfl rfl ⟨by omega, by omega⟩ ⟨by omega, by omega⟩ dX8_spell_66 (jn := 30) rfl ?_
  refine wp_aload_n dX8_spell_67 rfl rfl ?_
  refine wp_get 69 rfl fl_RX8_13 rfl ⟨by omega, by omega⟩ dX8_spell_68 rfl (v := 70) (rfl) ?_
  refine wp_iload_n dX8_spell_71 rfl rfl ?_
  refine wp_bipush dX8_spell_72 (by decide) (by decide) ?_
  refine wp_iadd dX8_spell_74 (by omega) ?_
  refine wp_iload dX8_spell_75 rfl ?_
  refine wp_iast 70 rfl rfl ⟨by omega, by omega⟩ ⟨by omega, by omega⟩ dX8_spell_77 (jn := 31) rfl ?_
  refine wp_vret rfl dX8_spell_78 ?_
  refine wp_aload_n dX8_init_256 rfl rfl ?_
  refine wp_bipush dX8_init_257 (by decide) (by decide) ?_
  refine wp_bipush dX8_init_259 (by decide) (by decide) ?_
  refine wp_bipush dX8_init_261 (by decide) (by decide) ?_
  refine wp_bipush dX8_init_263 (by decide) (by decide) ?_
  refine wp_bipush dX8_init_265 (by decide) (by decide) ?_
  refine wp_bipush dX8_init_267 (by decide) (by decide) ?_
  refine wp_bipush dX8_init_269 (by decide) (by decide) ?_
  refine wp_bipush dX8_init_271 (by decide) (by decide) ?_
  refine wp_bipush dX8_init_273 (by decide) (by decide) ?_
  refine wp_callV0 (d' := d - 1) cv_RX8_81 69 rfl [(0, 32), (0, 101), (0, 114), (0, 32), (0, 59), (0, 32), (0, 105), (0, 114), (0, 107)] [] rfl rfl (Or.inl ⟨_, _, rfl, by decide, rfl, by omega, by omega⟩) (by omega) (Nat.le_of_ble_eq_true rfl) dX8_init_275 rfl (Nat.le_of_ble_eq_true rfl) (by omega) (loc1 := [(2, 69), (0, 32), (0, 101), (0, 114), (0, 32), (0, 59), (0, 32), (0, 105), (0, 114), (0, 107)]) rfl ?_
  refine wp_aload_n dX8_spell_0 rfl rfl ?_
  refine wp_get 69 rfl fl_RX8_13 rfl ⟨by omega, by omega⟩ dX8_spell_1 rfl (v := 70) (rfl) ?_
  refine wp_iload_n dX8_spell_4 rfl rfl ?_
  refine wp_iload_n dX8_spell_5 rfl rfl ?_
  refine wp_iast 70 rfl rfl ⟨by omega, by omega⟩ ⟨by omega, by omega⟩ dX8_spell_6 (jn := 32) rfl ?_
  refine wp_aload_n dX8_spell_7 rfl rfl ?_
  refine wp_get 69 rfl fl_RX8_13 rfl ⟨by omega, by omega⟩ dX8_spell_8 rfl (v := 70) (rfl) ?_
  refine wp_iload_n dX8_spell_11 rfl rfl ?_
  refine wp_iconst dX8_spell_12 (by decide) ?_
  refine wp_iadd dX8_spell_13 (by omega) ?_
  refine wp_iload_n dX8_spell_14 rfl rfl ?_
  refine wp_iast 70 rfl rfl ⟨by omega, by omega⟩ ⟨by omega, by omega⟩ dX8_spell_15 (jn := 33) rfl ?_
  refine wp_aload_n dX8_spell_16 rfl rfl ?_
  refine wp_get 69 rfl fl_RX8_13 rfl ⟨by omega, by omega⟩ dX8_spell_17 rfl (v := 70) (rfl) ?_
  refine wp_iload_n dX8_spell_20 rfl rfl ?_
  refine wp_iconst dX8_spell_21 (by decide) ?_
  refine wp_iadd dX8_spell_22 (by omega) ?_
  refine wp_iload dX8_spell_23 rfl ?_
  refine wp_iast 70 rfl rfl ⟨by omega, by omega⟩ ⟨by omega, by omega⟩ dX8_spell_25 (jn := 34) rfl ?_
  refine wp_aload_n dX8_spell_26 rfl rfl ?_
  refine wp_get 69 rfl fl_RX8_13 rfl ⟨by omega, by omega⟩ dX8_spell_27 rfl (v := 70) (rfl) ?_
  refine wp_iload_n dX8_spell_30 rfl rfl ?_
  refine wp_iconst dX8_spell_31 (by decide) ?_
  refine wp_iadd dX8_spell_32 (by omega) ?_
  refine wp_iload dX8_spell_33 rfl ?_
  refine wp_iast 70 rfl rfl ⟨by omega, by omega⟩ ⟨by omega, by omega⟩ dX8_spell_35 (jn := 35) rfl ?_
  refine wp_aload_n dX8_spell_36 rfl rfl ?_
  refine wp_get 69 rfl fl_RX8_13 rfl ⟨by omega, by omega⟩ dX8_spell_37 rfl (v := 70) (rfl) ?_
  refine wp_iload_n dX8_spell_40 rfl rfl ?_
  refine wp_iconst dX8_spell_41 (by decide) ?_
  refine wp_iadd dX8_spell_42 (by omega) ?_
  refine wp_iload dX8_spell_43 rfl ?_
  refine wp_iast 70 rfl rfl ⟨by omega, by omega⟩ ⟨by omega, by omega⟩ dX8_spell_45 (jn := 36) rfl ?_
  refine wp_aload_n dX8_spell_46 rfl rfl ?_
  refine wp_get 69 rfl fl_RX8_13 rfl ⟨by omega, by omega⟩ dX8_spell_47 rfl (v := 70) (rfl) ?_
  refine wp_iload_n dX8_spell_50 rfl rfl ?_
  refine wp_iconst dX8_spell_51 (by decide) ?_
  refine wp_iadd dX8_spell_52 (by omega) ?_
  refine wp_iload dX8_spell_53 rfl ?_
  refine wp_iast 70 rfl rfl ⟨by omega, by omega⟩ ⟨by omega, by omega⟩ dX8_spell_55 (jn := 37) rfl ?_
  refine wp_aload_n dX8_spell_56 rfl rfl ?_
  refine wp_get 69 rfl fl_RX8_13 rfl ⟨by omega, by omega⟩ dX8_spell_57 rfl (v := 70) (rfl) ?_
  refine wp_iload_n dX8_spell_60 rfl rfl ?_
  refine wp_bipush dX8_spell_61 (by decide) (by decide) ?_
  refine wp_iadd dX8_spell_63 (by omega) ?_
  refine wp_iload dX8_spell_64 rfl ?_
  refine wp_iast 70 rfl rfl ⟨by omega, by omega⟩ ⟨by omega, by omega⟩ dX8_spell_66 (jn := 38) rfl ?_
  refine wp_aload_n dX8_spell_67 rfl rfl ?_
  refine wp_get 69 rfl fl_RX8_13 rfl ⟨by omega, by omega⟩ dX8_spell_68 rfl (v := 70) (rfl) ?_
  refine wp_iload_n dX8_spell_71 rfl rfl ?_
  refine wp_bipush dX8_spell_72 (by decide) (by decide) ?_
  refine wp_iadd dX8_spell_74 (by omega) ?_
  refine wp_iload dX8_spell_75 rfl ?_
  refine wp_iast 70 rfl rfl ⟨by omega, by omega⟩ ⟨by omega, by omega⟩ dX8_spell_77 (jn := 39) rfl ?_
  refine wp_vret rfl dX8_spell_78 ?_
  refine wp_aload_n dX8_init_278 rfl rfl ?_
  refine wp_bipush dX8_init_279 (by decide) (by decide) ?_
  refine wp_bipush dX8_init_281 (by decide) (by decide) ?_
  refine wp_bipush dX8_init_283 (by decide) (by decide) ?_
  refine wp_bipush dX8_init_285 (by decide) (by decide) ?_
  refine wp_bipush dX8_init_287 (by decide) (by decide) ?_
  refine wp_bipush dX8_init_289 (by decide) (by decide) ?_
  refine wp_bipush dX8_init_291 (by decide) (by decide) ?_
  refine wp_bipush dX8_init_293 (by decide) (by decide) ?_
  refine wp_bipush dX8_init_295 (by decide) (by decide) ?_
  refine wp_callV0 (d' := d - 1) cv_RX8_81 69 rfl [(0, 40), (0, 115), (0, 32), (0, 49), (0, 32), (0, 59), (0, 32), (0, 32), (0, 32)] [] rfl rfl (Or.inl ⟨_, _, rfl, by decide, rfl, by omega, by omega⟩) (by omega) (Nat.le_of_ble_eq_true rfl) dX8_init_297 rfl (Nat.le_of_ble_eq_true rfl) (by omega) (loc1 := [(2, 69), (0, 40), (0, 115), (0, 32), (0, 49), (0, 32), (0, 59), (0, 32), (0, 32), (0, 32)]) rfl ?_
  refine wp_aload_n dX8_spell_0 rfl rfl ?_
  refine wp_get 69 rfl fl_RX8_13 rfl ⟨by omega, by omega⟩ dX8_spell_1 rfl (v := 70) (rfl) ?_
  refine wp_iload_n dX8_spell_4 rfl rfl ?_
  refine wp_iload_n dX8_spell_5 rfl rfl ?_
  refine wp_iast 70 rfl rfl ⟨by omega, by omega⟩ ⟨by omega, by omega⟩ dX8_spell_6 (jn := 40) rfl ?_
  refine wp_aload_n dX8_spell_7 rfl rfl ?_
  refine wp_get 69 rfl fl_RX8_13 rfl ⟨by omega, by omega⟩ dX8_spell_8 rfl (v := 70) (rfl) ?_
  refine wp_iload_n dX8_spell_11 rfl rfl ?_
  refine wp_iconst dX8_spell_12 (by decide) ?_
  refine wp_iadd dX8_spell_13 (by omega) ?_
  refine wp_iload_n dX8_spell_14 rfl rfl ?_
  refine wp_iast 70 rfl rfl ⟨by omega, by omega⟩ ⟨by omega, by omega⟩ dX8_spell_15 (jn := 41) rfl ?_
  refine wp_aload_n dX8_spell_16 rfl rfl ?_
  refine wp_get 69 rfl fl_RX8_13 rfl ⟨by omega, by omega⟩ dX8_spell_17 rfl (v := 70) (rfl) ?_
  refine wp_iload_n dX8_spell_20 rfl rfl ?_
  refine wp_iconst dX8_spell_21 (by decide) ?_
  refine wp_iadd dX8_spell_22 (by omega) ?_
  refine wp_iload dX8_spell_23 rfl ?_
  refine wp_iast 70 rfl rfl ⟨by omega, by omega⟩ ⟨by omega, by omega⟩ dX8_spell_25 (jn := 42) rfl ?_
  refine wp_aload_n dX8_spell_26 rfl rfl ?_
  refine wp_get 69 rfl fl_RX8_13 rfl ⟨by omega, by omega⟩ dX8_spell_27 rfl (v := 70) (rfl) ?_
  refine wp_iload_n dX8_spell_30 rfl rfl ?_
  refine wp_iconst dX8_spell_31 (by decide) ?_
  refine wp_iadd dX8_spell_32 (by omega) ?_
  refine wp_iload dX8_spell_33 rfl ?_
  refine wp_iast 70 rfl rfl ⟨by omega, by omega⟩ ⟨by omega, by omega⟩ dX8_spell_35 (jn := 43) rfl ?_
  refine wp_aload_n dX8_spell_36 rfl rfl ?_
  refine wp_get 69 rfl fl_RX8_13 rfl ⟨by omega, by omega⟩ dX8_spell_37 rfl (v := 70) (rfl) ?_
  refine wp_iload_n dX8_spell_40 rfl rfl ?_
  refine wp_iconst dX8_spell_41 (by decide) ?_
  refine wp_iadd dX8_spell_42 (by omega) ?_
  refine wp_iload dX8_spell_43 rfl ?_
  refine wp_iast 70 rfl rfl ⟨by omega, by omega⟩ ⟨by omega, by omega⟩ dX8_spell_45 (jn := 44) rfl ?_
  refine wp_aload_n dX8_spell_46 rfl rfl ?_
  refine wp_get 69 rfl fl_RX8_13 rfl ⟨by omega, by omega⟩ dX8_spell_47 rfl (v := 70) (rfl) ?_
  refine wp_iload_n dX8_spell_50 rfl rfl ?_
  refine wp_iconst dX8_spell_51 (by decide) ?_
  refine wp_iadd dX8_spell_52 (by omega) ?_
  refine wp_iload dX8_spell_53 rfl ?_
  refine wp_iast 70 rfl rfl ⟨by omega, by omega⟩ ⟨by omega, by omega⟩ dX8_spell_55 (jn := 45) rfl ?_
  refine wp_aload_n dX8_spell_56 rfl rfl ?_
  refine wp_get 69 rfl fl_RX8_13 rfl ⟨by omega, by omega⟩ dX8_spell_57 rfl (v := 70) (rfl) ?_
  refine wp_iload_n dX8_spell_60 rfl rfl ?_
  refine wp_bipush dX8_spell_61 (by decide) (by decide) ?_
  refine wp_iadd dX8_spell_63 (by omega) ?_
  refine wp_iload dX8_spell_64 rfl ?_
  refine wp_iast 70 rfl rfl ⟨by omega, by omega⟩ ⟨by omega, by omega⟩ dX8_spell_66 (jn := 46) rfl ?_
  refine wp_aload_n dX8_spell_67 rfl rfl ?_
  refine wp_get 69 rfl fl_RX8_13 rfl ⟨by omega, by omega⟩ dX8_spell_68 rfl (v := 70) (rfl) ?_
  refine wp_iload_n dX8_spell_71 rfl rfl ?_
  refine wp_bipush dX8_spell_72 (by decide) (by decide) ?_
  refine wp_iadd dX8_spell_74 (by omega) ?_
  refine wp_iload dX8_spell_75 rfl ?_
  refine wp_iast 70 rfl rfl ⟨by omega, by omega⟩ ⟨by omega, by omega⟩ dX8_spell_77 (jn := 47) rfl ?_
  refine wp_vret rfl dX8_spell_78 ?_
  refine wp_aload_n dX8_init_300 rfl rfl ?_
  refine wp_get 69 rfl fl_RX8_17 rfl ⟨by omega, by omega⟩ dX8_init_301 rfl (v := 71) (rfl) ?_
  refine wp_iconst dX8_init_304 (by decide) ?_
  refine wp_bipush dX8_init_305 (by decide) (by decide) ?_
  refine wp_iast 71 rfl rfl ⟨by omega, by omega⟩ ⟨by omega, by omega⟩ dX8_init_307 (jn := 0) rfl ?_
  refine wp_aload_n dX8_init_308 rfl rfl ?_
  refine wp_iconst dX8_init_309 (by decide) ?_
  refine wp_puti 69 rfl fl_RX8_85 rfl ⟨by omega, by omega⟩ dX8_init_310 rfl rfl ?_
  refine wp_vret rfl dX8_init_313 ?_
  have FF : Fr (fun i _ => 69 ≤ i) M (mu (mu (mu (mu (mu (mu (mu (mu (mu (mu (mu (mu (mu (mu (mu (mu (mu (mu (mu (mu (mu (mu (mu (mu (mu (mu (mu (mu (mu (mu (mu (mu (mu (mu (mu (mu (mu (mu (mu (mu (mu (mu (mu (mu (mu (mu (mu (mu (mu (mu (mu (mu (mu (mu (mu (mu (mu (mu (mu (mu (mu (mu (mu (mu (mu (mu (mu (mu (mu (mu (mu (mu M 69 1 70) 69 2 71) 69 5 72) 69 8 73) 69 9 74) 69 11 75) 69 28 76) 69 29 77) 69 31 78) 69 32 79) 69 34 80) 69 35 81) 69 38 82) 69 39 83) 69 42 84) 69 43 85) 69 44 86) 69 46 (-1)) 69 49 87) 69 50 88) 69 51 89) 69 52 90) 70 0 109) 70 1 105) 70 2 110) 70 3 100) 70 4 115) 70 5 32) 70 6 110) 70 7 111) 70 8 116) 70 9 32) 70 10 108) 70 11 105) 70 12 107) 70 13 101) 70 14 100) 70 15 32) 70 16 59) 70 17 32) 70 18 108) 70 19 97) 70 20 115) 70 21 116) 70 22 115) 70 23 32) 70 24 51) 70 25 32) 70 26 43) 70 27 32) 70 28 110) 70 29 117) 70 30 109) 70 31 98) 70 32 101) 70 33 114) 70 34 32) 70 35 59) 70 36 32) 70 37 105) 70 38 114) 70 39 107) 70 40 115) 70 41 32) 70 42 49) 70 43 32) 70 44 59) 70 45 32) 70 46 32) 70 47 32) 71 0 48) 69 3 1) := by
    refine Fr.put ?_ (by decide)
    refine Fr.put ?_ (by decide)
    refine Fr.put ?_ (by decide)
    refine Fr.put ?_ (by decide)
    refine Fr.put ?_ (by decide)
    refine Fr.put ?_ (by decide)
    refine Fr.put ?_ (by decide)
    refine Fr.put ?_ (by decide)
    refine Fr.put ?_ (by decide)
    refine Fr.put ?_ (by decide)
    refine Fr.put ?_ (by decide)
    refine Fr.put ?_ (by decide)
    refine Fr.put ?_ (by decide)
    refine Fr.put ?_ (by decide)
    refine Fr.put ?_ (by decide)
    refine Fr.put ?_ (by decide)
    refine Fr.put ?_ (by decide)
    refine Fr.put ?_ (by decide)
    refine Fr.put ?_ (by decide)
    refine Fr.put ?_ (by decide)
    refine Fr.put ?_ (by decide)
    refine Fr.put ?_ (by decide)
    refine Fr.put ?_ (by decide)
    refine Fr.put ?_ (by decide)
    refine Fr.put ?_ (by decide)
    refine Fr.put ?_ (by decide)
    refine Fr.put ?_ (by decide)
    refine Fr.put ?_ (by decide)
    refine Fr.put ?_ (by decide)
    refine Fr.put ?_ (by decide)
    refine Fr.put ?_ (by decide)
    refine Fr.put ?_ (by decide)
    refine Fr.put ?_ (by decide)
    refine Fr.put ?_ (by decide)
    refine Fr.put ?_ (by decide)
    refine Fr.put ?_ (by decide)
    refine Fr.put ?_ (by decide)
    refine Fr.put ?_ (by decide)
    refine Fr.put ?_ (by decide)
    refine Fr.put ?_ (by decide)
    refine Fr.put ?_ (by decide)
    refine Fr.put ?_ (by decide)
    refine Fr.put ?_ (by decide)
    refine Fr.put ?_ (by decide)
    refine Fr.put ?_ (by decide)
    refine Fr.put ?_ (by decide)
    refine Fr.put ?_ (by decide)
    refine Fr.put ?_ (by decide)
    refine Fr.put ?_ (by decide)
    refine Fr.put ?_ (by decide)
    refine Fr.put ?_ (by decide)
    refine Fr.put ?_ (by decide)
    refine Fr.put ?_ (by decide)
    refine Fr.put ?_ (by decide)
    refine Fr.put ?_ (by decide)
    refine Fr.put ?_ (by decide)
    refine Fr.put ?_ (by decide)
    refine Fr.put ?_ (by decide)
    refine Fr.put ?_ (by decide)
    refine Fr.put ?_ (by decide)
    refine Fr.put ?_ (by decide)
    refine Fr.put ?_ (by decide)
    refine Fr.put ?_ (by decide)
    refine Fr.put ?_ (by decide)
    refine Fr.put ?_ (by decide)
    refine Fr.put ?_ (by decide)
    refine Fr.put ?_ (by decide)
    refine Fr.put ?_ (by decide)
    refine Fr.put ?_ (by decide)
    refine Fr.put ?_ (by decide)
    refine Fr.put ?_ (by decide)
    refine Fr.put ?_ (by decide)
    exact Fr.rf
  generalize hM9 : (mu (mu (mu (mu (mu (mu (mu (mu (mu (mu (mu (mu (mu (mu (mu (mu (mu (mu (mu (mu (mu (mu (mu (mu (mu (mu (mu (mu (mu (mu (mu (mu (mu (mu (mu (mu (mu (mu (mu (mu (mu (mu (mu (mu (mu (mu (mu (mu (mu (mu (mu (mu (mu (mu (mu (mu (mu (mu (mu (mu (mu (mu (mu (mu (mu (mu (mu (mu (mu (mu (mu (mu M 69 1 70) 69 2 71) 69 5 72) 69 8 73) 69 9 74) 69 11 75) 69 28 76) 69 29 77) 69 31 78) 69 32 79) 69 34 80) 69 35 81) 69 38 82) 69 39 83) 69 42 84) 69 43 85) 69 44 86) 69 46 (-1)) 69 49 87) 69 50 88) 69 51 89) 69 52 90) 70 0 109) 70 1 105) 70 2 110) 70 3 100) 70 4 115) 70 5 32) 70 6 110) 70 7 111) 70 8 116) 70 9 32) 70 10 108) 70 11 105) 70 12 107) 70 13 101) 70 14 100) 70 15 32) 70 16 59) 70 17 32) 70 18 108) 70 19 97) 70 20 115) 70 21 116) 70 22 115) 70 23 32) 70 24 51) 70 25 32) 70 26 43) 70 27 32) 70 28 110) 70 29 117) 70 30 109) 70 31 98) 70 32 101) 70 33 114) 70 34 32) 70 35 59) 70 36 32) 70 37 105) 70 38 114) 70 39 107) 70 40 115) 70 41 32) 70 42 49) 70 43 32) 70 44 59) 70 45 32) 70 46 32) 70 47 32) 71 0 48) 69 3 1) = M9 at FF
  have R9 : SRr M9 := hM.1.frL FF (by decide +kernel)
  have g60_0 : M9 60 0 = 61 := (FF 60 0 (by decide)).trans hM.2.1.1
  have g61_0 : M9 61 0 = 62 := (FF 61 0 (by decide)).trans hM.2.1.2.1
  have g60_1 : M9 60 1 = 63 := (FF 60 1 (by decide)).trans hM.2.1.2.2.1
  have g63_0 : M9 63 0 = 64 := (FF 63 0 (by decide)).trans hM.2.1.2.2.2.1
  have g60_2 : M9 60 2 = 65 := (FF 60 2 (by decide)).trans hM.2.1.2.2.2.2.1
  have g65_0 : M9 65 0 = 66 := (FF 65 0 (by decide)).trans hM.2.1.2.2.2.2.2.1
  have g60_3 : M9 60 3 = 67 := (FF 60 3 (by decide)).trans hM.2.1.2.2.2.2.2.2.1
  have g67_0 : M9 67 0 = 68 := (FF 67 0 (by decide)).trans hM.2.1.2.2.2.2.2.2.2
  have g69_1 : M9 69 1 = 70 := by rw [← hM9]; rfl
  have g69_2 : M9 69 2 = 71 := by rw [← hM9]; rfl
  have g69_5 : M9 69 5 = 72 := by rw [← hM9]; rfl
  have g69_8 : M9 69 8 = 73 := by rw [← hM9]; rfl
  have g69_9 : M9 69 9 = 74 := by rw [← hM9]; rfl
  have g69_11 : M9 69 11 = 75 := by rw [← hM9]; rfl
  have g69_28 : M9 69 28 = 76 := by rw [← hM9]; rfl
  have g69_29 : M9 69 29 = 77 := by rw [← hM9]; rfl
  have g69_31 : M9 69 31 = 78 := by rw [← hM9]; rfl
  have g69_32 : M9 69 32 = 79 := by rw [← hM9]; rfl
  have g69_34 : M9 69 34 = 80 := by rw [← hM9]; rfl
  have g69_35 : M9 69 35 = 81 := by rw [← hM9]; rfl
  have g69_38 : M9 69 38 = 82 := by rw [← hM9]; rfl
  have g69_39 : M9 69 39 = 83 := by rw [← hM9]; rfl
  have g69_42 : M9 69 42 = 84 := by rw [← hM9]; rfl
  have g69_43 : M9 69 43 = 85 := by rw [← hM9]; rfl
  have g69_44 : M9 69 44 = 86 := by rw [← hM9]; rfl
  have g69_49 : M9 69 49 = 87 := by rw [← hM9]; rfl
  have g69_50 : M9 69 50 = 88 := by rw [← hM9]; rfl
  have g69_51 : M9 69 51 = 89 := by rw [← hM9]; rfl
  have g69_52 : M9 69 52 = 90 := by rw [← hM9]; rfl
  have z := hM.2.2.1
  refine k M9 ⟨SR_mk R9 g60_0 g61_0 g60_1 g63_0 g60_2 g65_0 g60_3 g67_0 g69_1 g69_2 g69_5 g69_8 g69_9 g69_11 g69_28 g69_29 g69_31 g69_32 g69_34 g69_35 g69_38 g69_39 g69_42 g69_43 g69_44 g69_49 g69_50 g69_51 g69_52, FF, ?_, ?_, ?_, ?_, ?_, ?_, ?_, fun j hj => ?_, ?_, fun s hs => ?_⟩
  · rw [← hM9]; rfl
  · rw [← hM9]; exact z 69 4 (by decide)
  · rw [← hM9]; exact z 69 6 (by decide)
  · rw [← hM9]; exact z 69 7 (by decide)
  · rw [← hM9]; exact z 69 10 (by decide)
  · rw [← hM9]; exact z 69 12 (by decide)
  · rw [← hM9]; rfl
  · rw [← hM9]
    match j, hj with
    | 0, _ => exact (show (109 : Int) = fmT0 0 by decide +kernel)
    | 1, _ => exact (show (105 : Int) = fmT0 1 by decide +kernel)
    | 2, _ => exact (show (110 : Int) = fmT0 2 by decide +kernel)
    | 3, _ => exact (show (100 : Int) = fmT0 3 by decide +kernel)
    | 4, _ => exact (show (115 : Int) = fmT0 4 by decide +kernel)
    | 5, _ => exact (show (32 : Int) = fmT0 5 by decide +kernel)
    | 6, _ => exact (show (110 : Int) = fmT0 6 by decide +kernel)
    | 7, _ => exact (show (111 : Int) = fmT0 7 by decide +kernel)
    | 8, _ => exact (show (116 : Int) = fmT0 8 by decide +kernel)
    | 9, _ => exact (show (32 : Int) = fmT0 9 by decide +kernel)
    | 10, _ => exact (show (108 : Int) = fmT0 10 by decide +kernel)
    | 11, _ => exact (show (105 : Int) = fmT0 11 by decide +kernel)
    | 12, _ => exact (show (107 : Int) = fmT0 12 by decide +kernel)
    | 13, _ => exact (show (101 : Int) = fmT0 13 by decide +kernel)
    | 14, _ => exact (show (100 : Int) = fmT0 14 by decide +kernel)
    | 15, _ => exact (show (32 : Int) = fmT0 15 by decide +kernel)
    | 16, _ => exact (show (59 : Int) = fmT0 16 by decide +kernel)
    | 17, _ => exact (show (32 : Int) = fmT0 17 by decide +kernel)
    | 18, _ => exact (show (108 : Int) = fmT0 18 by decide +kernel)
    | 19, _ => exact (show (97 : Int) = fmT0 19 by decide +kernel)
    | 20, _ => exact (show (115 : Int) = fmT0 20 by decide +kernel)
    | 21, _ => exact (show (116 : Int) = fmT0 21 by decide +kernel)
    | 22, _ => exact (show (115 : Int) = fmT0 22 by decide +kernel)
    | 23, _ => exact (show (32 : Int) = fmT0 23 by decide +kernel)
    | 24, _ => exact (show (51 : Int) = fmT0 24 by decide +kernel)
    | 25, _ => exact (show (32 : Int) = fmT0 25 by decide +kernel)
    | 26, _ => exact (show (43 : Int) = fmT0 26 by decide +kernel)
    | 27, _ => exact (show (32 : Int) = fmT0 27 by decide +kernel)
    | 28, _ => exact (show (110 : Int) = fmT0 28 by decide +kernel)
    | 29, _ => exact (show (117 : Int) = fmT0 29 by decide +kernel)
    | 30, _ => exact (show (109 : Int) = fmT0 30 by decide +kernel)
    | 31, _ => exact (show (98 : Int) = fmT0 31 by decide +kernel)
    | 32, _ => exact (show (101 : Int) = fmT0 32 by decide +kernel)
    | 33, _ => exact (show (114 : Int) = fmT0 33 by decide +kernel)
    | 34, _ => exact (show (32 : Int) = fmT0 34 by decide +kernel)
    | 35, _ => exact (show (59 : Int) = fmT0 35 by decide +kernel)
    | 36, _ => exact (show (32 : Int) = fmT0 36 by decide +kernel)
    | 37, _ => exact (show (105 : Int) = fmT0 37 by decide +kernel)
    | 38, _ => exact (show (114 : Int) = fmT0 38 by decide +kernel)
    | 39, _ => exact (show (107 : Int) = fmT0 39 by decide +kernel)
    | 40, _ => exact (show (115 : Int) = fmT0 40 by decide +kernel)
    | 41, _ => exact (show (32 : Int) = fmT0 41 by decide +kernel)
    | 42, _ => exact (show (49 : Int) = fmT0 42 by decide +kernel)
    | 43, _ => exact (show (32 : Int) = fmT0 43 by decide +kernel)
    | 44, _ => exact (show (59 : Int) = fmT0 44 by decide +kernel)
    | 45, _ => exact (show (32 : Int) = fmT0 45 by decide +kernel)
    | 46, _ => exact (show (32 : Int) = fmT0 46 by decide +kernel)
    | 47, _ => exact (show (32 : Int) = fmT0 47 by decide +kernel)
    | j + 48, hj => exact absurd hj (by omega)
  · rw [← hM9]; rfl
  · rw [← hM9]
    exact z 87 s (by decide)
