/-! ===== the model: minds, lasts, irks, told ===== -/
set_option maxRecDepth 20000 in
set_option maxHeartbeats 4000000 in
theorem sp_mdm {l : Launch} {g : Gw} {d n : Nat} {M : Mm} {Q : Option Wd → Mm → Prop} (hn : 90 ≤ n) {A : Ls} {E : Ev} (hI : MJ M A E) (hd : 65 ≤ d) (x y : Int) (hx : 0 ≤ x ∧ x < A.1 2) (hy : 0 ≤ y ∧ y < A.1 2) (hxy : x ≠ y) (kt : mindsA E A x y = true → ∀ M', Fr VMs M M' → Q (some (0, 1)) M') (kf : mindsA E A x y = false → ∀ M', Fr VMs M M' → Q (some (0, 0)) M') : Wp l g d 0 0 n m_X8_minds1 0 [] [(2, 69), (0, x), (0, y), (9, 0), (9, 0), (9, 0)] M Q := by
  obtain ⟨hR, hA, hW, hr, hX⟩ := id hI
  have w2 := hW.1
  have w5 := hW.2.1
  have w3 := hW.2.2.1
  have w32 := hW.2.2.2.1
  have hm : mindsA E A x y = mndF (A.2 0 x.toNat) (E (A.1 1).toNat 0 (nmA A true x y)) (bnd (shr (A.2 2 x.toNat) y) 1) (A.2 3 y.toNat) (A.2 1 y.toNat) (A.2 1 x.toNat) := if_neg (by omega)
  refine wp_aload_n dX8_minds1_0 rfl rfl ?_
  refine wp_get 69 rfl fl_RX8_23 rfl ⟨by omega, by omega⟩ dX8_minds1_1 rfl (v := 73) (sr_69_8 (M := M) hR) ?_
  refine wp_iload_n dX8_minds1_4 rfl rfl ?_
  refine wp_iald 73 rfl rfl ⟨by omega, by omega⟩ ⟨by omega, by omega⟩ dX8_minds1_5 (v := (A.2 0 x.toNat)) (by rw [show (x).toNat = x.toNat by omega]; exact hA.2.2.2.2.1 x.toNat (by omega)) ?_
  refine wp_istore_n (loc' := [(2, 69), (0, x), (0, y), (0, (A.2 0 x.toNat)), (9, 0), (9, 0)]) dX8_minds1_6 rfl (Nat.le_of_ble_eq_true rfl) rfl ?_
  refine wp_iload_n dX8_minds1_7 rfl rfl ?_
  refine wp_iconst dX8_minds1_8 (by decide) ?_
  refine wp_icmp_eq (tgt := 17) dX8_minds1_9 (by decide) (fun h9 => ?_) (fun h9 => ?_)
  · refine wp_iload_n dX8_minds1_17 rfl rfl ?_
    refine wp_iconst dX8_minds1_18 (by decide) ?_
    refine wp_icmp_ne (tgt := 26) dX8_minds1_19 (by decide) (fun h19 => ?_) (fun h19 => ?_)
    · refine wp_iconst dX8_minds1_26 (by decide) ?_
      refine wp_zret rfl (by omega) dX8_minds1_27 ?_
      refine kf (hm.trans ?_) M Fr.rf
      unfold mndF
      have hb1 := bnd1 (shr (A.2 2 x.toNat) y)
      repeat (first | rw [if_pos (by omega)] | rw [if_neg (by omega)])
      all_goals (first | rfl | exact decide_eq_true (by omega) | exact decide_eq_false (by omega))
    · refine wp_iconst dX8_minds1_22 (by decide) ?_
      refine wp_goto (tgt := 27) dX8_minds1_23 (by decide) ?_
      refine wp_zret rfl (by omega) dX8_minds1_27 ?_
      refine kt (hm.trans ?_) M Fr.rf
      unfold mndF
      have hb1 := bnd1 (shr (A.2 2 x.toNat) y)
      repeat (first | rw [if_pos (by omega)] | rw [if_neg (by omega)])
      all_goals (first | rfl | exact decide_eq_true (by omega) | exact decide_eq_false (by omega))
  · refine wp_iload_n dX8_minds1_12 rfl rfl ?_
    refine wp_iconst dX8_minds1_13 (by decide) ?_
    refine wp_icmp_ne (tgt := 28) dX8_minds1_14 (by decide) (fun h14 => ?_) (fun h14 => ?_)
    · refine wp_aload_n dX8_minds1_28 rfl rfl ?_
      refine wp_iconst dX8_minds1_29 (by decide) ?_
      refine wp_iload_n dX8_minds1_30 rfl rfl ?_
      refine wp_iload_n dX8_minds1_31 rfl rfl ?_
      refine wp_callV0 (d' := d - 1) cv_RX8_359 69 rfl [(0, 0), (0, x), (0, y)] [] rfl rfl (Or.inl ⟨_, _, rfl, by decide, rfl, by omega, by omega⟩) (by omega) (Nat.le_of_ble_eq_true rfl) dX8_minds1_32 rfl (Nat.le_of_ble_eq_true rfl) (by omega) (loc1 := [(2, 69), (0, 0), (0, x), (0, y), (9, 0)]) rfl ?_
      refine sp_says0 hn hI (by omega) x y hx hy (fun M1 F1 => ?_)
      have I1 := hI.frs F1
      obtain ⟨R1, A1, _, _, _⟩ := id I1
      refine wp_if_eq (tgt := 42) dX8_minds1_35 (by decide) (fun h35 => ?_) (fun h35 => ?_)
      · refine wp_iconst dX8_minds1_42 (by decide) ?_
        refine wp_istore (loc' := [(2, 69), (0, x), (0, y), (0, (A.2 0 x.toNat)), (0, 0), (9, 0)]) dX8_minds1_43 (Nat.le_of_ble_eq_true rfl) rfl ?_
        refine wp_iload dX8_minds1_45 rfl ?_
        refine wp_if_ne (tgt := 63) dX8_minds1_47 (by decide) (fun h => absurd h (by decide)) (fun _ => ?_)
        refine wp_aload_n dX8_minds1_50 rfl rfl ?_
        refine wp_get 69 rfl fl_RX8_26 rfl ⟨by omega, by omega⟩ dX8_minds1_51 rfl (v := 74) (sr_69_9 (M := M1) R1) ?_
        refine wp_iconst dX8_minds1_54 (by decide) ?_
        refine wp_iload_n dX8_minds1_55 rfl rfl ?_
        refine wp_imul dX8_minds1_56 (by omega) ?_
        refine wp_iconst dX8_minds1_57 (by decide) ?_
        refine wp_iadd dX8_minds1_58 (by omega) ?_
        refine wp_iald 74 rfl rfl ⟨by omega, by omega⟩ ⟨by omega, by omega⟩ dX8_minds1_59 (v := (A.2 3 y.toNat)) (by rw [show (((4 * y) + 2)).toNat = (4 * y.toNat + 2) by omega]; exact A1.2.2.2.2.2.1 2 y.toNat (by omega) (by omega)) ?_
        refine wp_if_ne (tgt := 67) dX8_minds1_60 (by decide) (fun h60 => ?_) (fun h60 => ?_)
        · refine wp_iconst dX8_minds1_67 (by decide) ?_
          refine wp_istore (loc' := [(2, 69), (0, x), (0, y), (0, (A.2 0 x.toNat)), (0, 0), (0, 0)]) dX8_minds1_68 (Nat.le_of_ble_eq_true rfl) rfl ?_
          refine wp_iload_n dX8_minds1_70 rfl rfl ?_
          refine wp_iconst dX8_minds1_71 (by decide) ?_
          refine wp_icmp_ne (tgt := 97) dX8_minds1_72 (by decide) (fun h72 => ?_) (fun h72 => ?_)
          · refine wp_iload_n dX8_minds1_97 rfl rfl ?_
            refine wp_iconst dX8_minds1_98 (by decide) ?_
            refine wp_icmp_ne (tgt := 107) dX8_minds1_99 (by decide) (fun h99 => ?_) (fun h99 => ?_)
            · refine wp_iload_n dX8_minds1_107 rfl rfl ?_
              refine wp_iconst dX8_minds1_108 (by decide) ?_
              refine wp_icmp_ne (tgt := 144) dX8_minds1_109 (by decide) (fun h109 => ?_) (fun h109 => ?_)
              · refine wp_iload dX8_minds1_144 rfl ?_
                refine wp_zret rfl (by omega) dX8_minds1_146 ?_
                refine kf (hm.trans ?_) M1 F1
                unfold mndF
                have hb1 := bnd1 (shr (A.2 2 x.toNat) y)
                repeat (first | rw [if_pos (by omega)] | rw [if_neg (by omega)])
                all_goals (first | rfl | exact decide_eq_true (by omega) | exact decide_eq_false (by omega))
              · refine wp_iload dX8_minds1_112 rfl ?_
                refine wp_if_ne (tgt := 136) dX8_minds1_114 (by decide) (fun h => absurd h (by decide)) (fun _ => ?_)
                refine wp_aload_n dX8_minds1_117 rfl rfl ?_
                refine wp_get 69 rfl fl_RX8_26 rfl ⟨by omega, by omega⟩ dX8_minds1_118 rfl (v := 74) (sr_69_9 (M := M1) R1) ?_
                refine wp_iconst dX8_minds1_121 (by decide) ?_
                refine wp_iload_n dX8_minds1_122 rfl rfl ?_
                refine wp_imul dX8_minds1_123 (by omega) ?_
                refine wp_iald 74 rfl rfl ⟨by omega, by omega⟩ ⟨by omega, by omega⟩ dX8_minds1_124 (v := (A.2 1 y.toNat)) (by rw [show ((4 * y)).toNat = (4 * y.toNat) by omega]; exact A1.2.2.2.2.2.1 0 y.toNat (by omega) (by omega)) ?_
                refine wp_aload_n dX8_minds1_125 rfl rfl ?_
                refine wp_get 69 rfl fl_RX8_26 rfl ⟨by omega, by omega⟩ dX8_minds1_126 rfl (v := 74) (sr_69_9 (M := M1) R1) ?_
                refine wp_iconst dX8_minds1_129 (by decide) ?_
                refine wp_iload_n dX8_minds1_130 rfl rfl ?_
                refine wp_imul dX8_minds1_131 (by omega) ?_
                refine wp_iald 74 rfl rfl ⟨by omega, by omega⟩ ⟨by omega, by omega⟩ dX8_minds1_132 (v := (A.2 1 x.toNat)) (by rw [show ((4 * x)).toNat = (4 * x.toNat) by omega]; exact A1.2.2.2.2.2.1 0 x.toNat (by omega) (by omega)) ?_
                refine wp_icmp_ge (tgt := 140) dX8_minds1_133 (by decide) (fun h133 => ?_) (fun h133 => ?_)
                · refine wp_iconst dX8_minds1_140 (by decide) ?_
                  refine wp_goto (tgt := 146) dX8_minds1_141 (by decide) ?_
                  refine wp_zret rfl (by omega) dX8_minds1_146 ?_
                  refine kf (hm.trans ?_) M1 F1
                  unfold mndF
                  have hb1 := bnd1 (shr (A.2 2 x.toNat) y)
                  repeat (first | rw [if_pos (by omega)] | rw [if_neg (by omega)])
                  all_goals (first | rfl | exact decide_eq_true (by omega) | exact decide_eq_false (by omega))
                · refine wp_iconst dX8_minds1_136 (by decide) ?_
                  refine wp_goto (tgt := 146) dX8_minds1_137 (by decide) ?_
                  refine wp_zret rfl (by omega) dX8_minds1_146 ?_
                  refine kt (hm.trans ?_) M1 F1
                  unfold mndF
                  have hb1 := bnd1 (shr (A.2 2 x.toNat) y)
                  repeat (first | rw [if_pos (by omega)] | rw [if_neg (by omega)])
                  all_goals (first | rfl | exact decide_eq_true (by omega) | exact decide_eq_false (by omega))
            · refine wp_iload dX8_minds1_102 rfl ?_
              refine wp_goto (tgt := 146) dX8_minds1_104 (by decide) ?_
              refine wp_zret rfl (by omega) dX8_minds1_146 ?_
              refine kf (hm.trans ?_) M1 F1
              unfold mndF
              have hb1 := bnd1 (shr (A.2 2 x.toNat) y)
              repeat (first | rw [if_pos (by omega)] | rw [if_neg (by omega)])
              all_goals (first | rfl | exact decide_eq_true (by omega) | exact decide_eq_false (by omega))
          · refine wp_iload dX8_minds1_75 rfl ?_
            refine wp_if_eq (tgt := 93) dX8_minds1_77 (by decide) (fun _ => ?_) (fun h => absurd h (by decide))
            refine wp_iconst dX8_minds1_93 (by decide) ?_
            refine wp_goto (tgt := 146) dX8_minds1_94 (by decide) ?_
            refine wp_zret rfl (by omega) dX8_minds1_146 ?_
            refine kf (hm.trans ?_) M1 F1
            unfold mndF
            have hb1 := bnd1 (shr (A.2 2 x.toNat) y)
            repeat (first | rw [if_pos (by omega)] | rw [if_neg (by omega)])
            all_goals (first | rfl | exact decide_eq_true (by omega) | exact decide_eq_false (by omega))
        · refine wp_iconst dX8_minds1_63 (by decide) ?_
          refine wp_goto (tgt := 68) dX8_minds1_64 (by decide) ?_
          refine wp_istore (loc' := [(2, 69), (0, x), (0, y), (0, (A.2 0 x.toNat)), (0, 0), (0, 1)]) dX8_minds1_68 (Nat.le_of_ble_eq_true rfl) rfl ?_
          refine wp_iload_n dX8_minds1_70 rfl rfl ?_
          refine wp_iconst dX8_minds1_71 (by decide) ?_
          refine wp_icmp_ne (tgt := 97) dX8_minds1_72 (by decide) (fun h72 => ?_) (fun h72 => ?_)
          · refine wp_iload_n dX8_minds1_97 rfl rfl ?_
            refine wp_iconst dX8_minds1_98 (by decide) ?_
            refine wp_icmp_ne (tgt := 107) dX8_minds1_99 (by decide) (fun h99 => ?_) (fun h99 => ?_)
            · refine wp_iload_n dX8_minds1_107 rfl rfl ?_
              refine wp_iconst dX8_minds1_108 (by decide) ?_
              refine wp_icmp_ne (tgt := 144) dX8_minds1_109 (by decide) (fun h109 => ?_) (fun h109 => ?_)
              · refine wp_iload dX8_minds1_144 rfl ?_
                refine wp_zret rfl (by omega) dX8_minds1_146 ?_
                refine kf (hm.trans ?_) M1 F1
                unfold mndF
                have hb1 := bnd1 (shr (A.2 2 x.toNat) y)
                repeat (first | rw [if_pos (by omega)] | rw [if_neg (by omega)])
                all_goals (first | rfl | exact decide_eq_true (by omega) | exact decide_eq_false (by omega))
              · refine wp_iload dX8_minds1_112 rfl ?_
                refine wp_if_ne (tgt := 136) dX8_minds1_114 (by decide) (fun _ => ?_) (fun h => absurd h (by decide))
                refine wp_iconst dX8_minds1_136 (by decide) ?_
                refine wp_goto (tgt := 146) dX8_minds1_137 (by decide) ?_
                refine wp_zret rfl (by omega) dX8_minds1_146 ?_
                refine kt (hm.trans ?_) M1 F1
                unfold mndF
                have hb1 := bnd1 (shr (A.2 2 x.toNat) y)
                repeat (first | rw [if_pos (by omega)] | rw [if_neg (by omega)])
                all_goals (first | rfl | exact decide_eq_true (by omega) | exact decide_eq_false (by omega))
            · refine wp_iload dX8_minds1_102 rfl ?_
              refine wp_goto (tgt := 146) dX8_minds1_104 (by decide) ?_
              refine wp_zret rfl (by omega) dX8_minds1_146 ?_
              refine kt (hm.trans ?_) M1 F1
              unfold mndF
              have hb1 := bnd1 (shr (A.2 2 x.toNat) y)
              repeat (first | rw [if_pos (by omega)] | rw [if_neg (by omega)])
              all_goals (first | rfl | exact decide_eq_true (by omega) | exact decide_eq_false (by omega))
          · refine wp_iload dX8_minds1_75 rfl ?_
            refine wp_if_eq (tgt := 93) dX8_minds1_77 (by decide) (fun _ => ?_) (fun h => absurd h (by decide))
            refine wp_iconst dX8_minds1_93 (by decide) ?_
            refine wp_goto (tgt := 146) dX8_minds1_94 (by decide) ?_
            refine wp_zret rfl (by omega) dX8_minds1_146 ?_
            refine kf (hm.trans ?_) M1 F1
            unfold mndF
            have hb1 := bnd1 (shr (A.2 2 x.toNat) y)
            repeat (first | rw [if_pos (by omega)] | rw [if_neg (by omega)])
            all_goals (first | rfl | exact decide_eq_true (by omega) | exact decide_eq_false (by omega))
      · refine wp_iconst dX8_minds1_38 (by decide) ?_
        refine wp_goto (tgt := 43) dX8_minds1_39 (by decide) ?_
        refine wp_istore (loc' := [(2, 69), (0, x), (0, y), (0, (A.2 0 x.toNat)), (0, 1), (9, 0)]) dX8_minds1_43 (Nat.le_of_ble_eq_true rfl) rfl ?_
        refine wp_iload dX8_minds1_45 rfl ?_
        refine wp_if_ne (tgt := 63) dX8_minds1_47 (by decide) (fun _ => ?_) (fun h => absurd h (by decide))
        refine wp_iconst dX8_minds1_63 (by decide) ?_
        refine wp_goto (tgt := 68) dX8_minds1_64 (by decide) ?_
        refine wp_istore (loc' := [(2, 69), (0, x), (0, y), (0, (A.2 0 x.toNat)), (0, 1), (0, 1)]) dX8_minds1_68 (Nat.le_of_ble_eq_true rfl) rfl ?_
        refine wp_iload_n dX8_minds1_70 rfl rfl ?_
        refine wp_iconst dX8_minds1_71 (by decide) ?_
        refine wp_icmp_ne (tgt := 97) dX8_minds1_72 (by decide) (fun h72 => ?_) (fun h72 => ?_)
        · refine wp_iload_n dX8_minds1_97 rfl rfl ?_
          refine wp_iconst dX8_minds1_98 (by decide) ?_
          refine wp_icmp_ne (tgt := 107) dX8_minds1_99 (by decide) (fun h99 => ?_) (fun h99 => ?_)
          · refine wp_iload_n dX8_minds1_107 rfl rfl ?_
            refine wp_iconst dX8_minds1_108 (by decide) ?_
            refine wp_icmp_ne (tgt := 144) dX8_minds1_109 (by decide) (fun h109 => ?_) (fun h109 => ?_)
            · refine wp_iload dX8_minds1_144 rfl ?_
              refine wp_zret rfl (by omega) dX8_minds1_146 ?_
              refine kt (hm.trans ?_) M1 F1
              unfold mndF
              have hb1 := bnd1 (shr (A.2 2 x.toNat) y)
              repeat (first | rw [if_pos (by omega)] | rw [if_neg (by omega)])
              all_goals (first | rfl | exact decide_eq_true (by omega) | exact decide_eq_false (by omega))
            · refine wp_iload dX8_minds1_112 rfl ?_
              refine wp_if_ne (tgt := 136) dX8_minds1_114 (by decide) (fun _ => ?_) (fun h => absurd h (by decide))
              refine wp_iconst dX8_minds1_136 (by decide) ?_
              refine wp_goto (tgt := 146) dX8_minds1_137 (by decide) ?_
              refine wp_zret rfl (by omega) dX8_minds1_146 ?_
              refine kt (hm.trans ?_) M1 F1
              unfold mndF
              have hb1 := bnd1 (shr (A.2 2 x.toNat) y)
              repeat (first | rw [if_pos (by omega)] | rw [if_neg (by omega)])
              all_goals (first | rfl | exact decide_eq_true (by omega) | exact decide_eq_false (by omega))
          · refine wp_iload dX8_minds1_102 rfl ?_
            refine wp_goto (tgt := 146) dX8_minds1_104 (by decide) ?_
            refine wp_zret rfl (by omega) dX8_minds1_146 ?_
            refine kt (hm.trans ?_) M1 F1
            unfold mndF
            have hb1 := bnd1 (shr (A.2 2 x.toNat) y)
            repeat (first | rw [if_pos (by omega)] | rw [if_neg (by omega)])
            all_goals (first | rfl | exact decide_eq_true (by omega) | exact decide_eq_false (by omega))
        · refine wp_iload dX8_minds1_75 rfl ?_
          refine wp_if_eq (tgt := 93) dX8_minds1_77 (by decide) (fun h => absurd h (by decide)) (fun _ => ?_)
          refine wp_aload_n dX8_minds1_80 rfl rfl ?_
          refine wp_iload_n dX8_minds1_81 rfl rfl ?_
          refine wp_iload_n dX8_minds1_82 rfl rfl ?_
          refine wp_callV0 (d' := d - 1) cv_RX8_352 69 rfl [(0, x), (0, y)] [] rfl rfl (Or.inl ⟨_, _, rfl, by decide, rfl, by omega, by omega⟩) (by omega) (Nat.le_of_ble_eq_true rfl) dX8_minds1_83 rfl (Nat.le_of_ble_eq_true rfl) (by omega) (loc1 := [(2, 69), (0, x), (0, y)]) rfl ?_
          refine sp_likm hn I1 x y hx (fun c1 => ?_) (fun c1 => ?_)
          · refine wp_if_ne (tgt := 93) dX8_minds1_86 (by decide) (fun _ => ?_) (fun h => absurd h (by decide))
            refine wp_iconst dX8_minds1_93 (by decide) ?_
            refine wp_goto (tgt := 146) dX8_minds1_94 (by decide) ?_
            refine wp_zret rfl (by omega) dX8_minds1_146 ?_
            refine kf (hm.trans ?_) M1 F1
            unfold mndF
            have hb1 := bnd1 (shr (A.2 2 x.toNat) y)
            repeat (first | rw [if_pos (by omega)] | rw [if_neg (by omega)])
            all_goals (first | rfl | exact decide_eq_true (by omega) | exact decide_eq_false (by omega))
          · refine wp_if_ne (tgt := 93) dX8_minds1_86 (by decide) (fun h => absurd h (by decide)) (fun _ => ?_)
            refine wp_iconst dX8_minds1_89 (by decide) ?_
            refine wp_goto (tgt := 146) dX8_minds1_90 (by decide) ?_
            refine wp_zret rfl (by omega) dX8_minds1_146 ?_
            refine kt (hm.trans ?_) M1 F1
            unfold mndF
            have hb1 := bnd1 (shr (A.2 2 x.toNat) y)
            repeat (first | rw [if_pos (by omega)] | rw [if_neg (by omega)])
            all_goals (first | rfl | exact decide_eq_true (by omega) | exact decide_eq_false (by omega))
    · refine wp_iload_n dX8_minds1_17 rfl rfl ?_
      refine wp_iconst dX8_minds1_18 (by decide) ?_
      refine wp_icmp_ne (tgt := 26) dX8_minds1_19 (by decide) (fun h19 => ?_) (fun h19 => ?_)
      · refine wp_iconst dX8_minds1_26 (by decide) ?_
        refine wp_zret rfl (by omega) dX8_minds1_27 ?_
        refine kf (hm.trans ?_) M Fr.rf
        unfold mndF
        have hb1 := bnd1 (shr (A.2 2 x.toNat) y)
        repeat (first | rw [if_pos (by omega)] | rw [if_neg (by omega)])
        all_goals (first | rfl | exact decide_eq_true (by omega) | exact decide_eq_false (by omega))
      · refine wp_iconst dX8_minds1_22 (by decide) ?_
        refine wp_goto (tgt := 27) dX8_minds1_23 (by decide) ?_
        refine wp_zret rfl (by omega) dX8_minds1_27 ?_
        refine kt (hm.trans ?_) M Fr.rf
        unfold mndF
        have hb1 := bnd1 (shr (A.2 2 x.toNat) y)
        repeat (first | rw [if_pos (by omega)] | rw [if_neg (by omega)])
        all_goals (first | rfl | exact decide_eq_true (by omega) | exact decide_eq_false (by omega))
set_option maxRecDepth 20000 in
set_option maxHeartbeats 4000000 in
theorem sp_lsm {l : Launch} {g : Gw} {d n : Nat} {M : Mm} {Q : Option Wd → Mm → Prop} (hn : 90 ≤ n) {A : Ls} {E : Ev} (hI : MJ M A E) (hd : 65 ≤ d) (x : Int) (hx : 0 ≤ x ∧ x < A.1 2) (k : ∀ M', Fr VMs M M' → Q (some (0, lastsA E A x)) M') : Wp l g d 0 0 n m_X8_lastsOf 0 [] [(2, 69), (0, x), (9, 0), (9, 0)] M Q := by
  obtain ⟨hR, hA, hW, hr, hX⟩ := id hI
  have w2 := hW.1
  have w5 := hW.2.1
  have w3 := hW.2.2.1
  have w32 := hW.2.2.2.1
  refine wp_aload_n dX8_lastsOf_0 rfl rfl ?_
  refine wp_get 69 rfl fl_RX8_23 rfl ⟨by omega, by omega⟩ dX8_lastsOf_1 rfl (v := 73) (sr_69_8 (M := M) hR) ?_
  refine wp_iload_n dX8_lastsOf_4 rfl rfl ?_
  refine wp_iald 73 rfl rfl ⟨by omega, by omega⟩ ⟨by omega, by omega⟩ dX8_lastsOf_5 (v := (A.2 0 x.toNat)) (by rw [show (x).toNat = x.toNat by omega]; exact hA.2.2.2.2.1 x.toNat (by omega)) ?_
  refine wp_istore_n (loc' := [(2, 69), (0, x), (0, (A.2 0 x.toNat)), (9, 0)]) dX8_lastsOf_6 rfl (Nat.le_of_ble_eq_true rfl) rfl ?_
  refine wp_iload_n dX8_lastsOf_7 rfl rfl ?_
  refine wp_iconst dX8_lastsOf_8 (by decide) ?_
  refine wp_icmp_ne (tgt := 14) dX8_lastsOf_9 (by decide) (fun h9 => ?_) (fun h9 => ?_)
  · refine wp_aload_n dX8_lastsOf_14 rfl rfl ?_
    refine wp_iconst dX8_lastsOf_15 (by decide) ?_
    refine wp_iload_n dX8_lastsOf_16 rfl rfl ?_
    refine wp_iload_n dX8_lastsOf_17 rfl rfl ?_
    refine wp_callV0 (d' := d - 1) cv_RX8_359 69 rfl [(0, 1), (0, x), (0, x)] [] rfl rfl (Or.inl ⟨_, _, rfl, by decide, rfl, by omega, by omega⟩) (by omega) (Nat.le_of_ble_eq_true rfl) dX8_lastsOf_18 rfl (Nat.le_of_ble_eq_true rfl) (by omega) (loc1 := [(2, 69), (0, 1), (0, x), (0, x), (9, 0)]) rfl ?_
    refine sp_says1 hn hI (by omega) x x hx hx (fun M1 F1 => ?_)
    have I1 := hI.frs F1
    obtain ⟨R1, A1, _, _, _⟩ := id I1
    have hw := wthn_r (lo := 0) (hi := 40) (v := E (A.1 1).toNat 1 (nmA A false x (-1))) (by decide)
    refine wp_istore_n (loc' := [(2, 69), (0, x), (0, (A.2 0 x.toNat)), (0, (wthn 0 40 (E (A.1 1).toNat 1 (nmA A false x (-1)))))]) dX8_lastsOf_21 rfl (Nat.le_of_ble_eq_true rfl) rfl ?_
    refine wp_iload_n dX8_lastsOf_22 rfl rfl ?_
    refine wp_iconst dX8_lastsOf_23 (by decide) ?_
    refine wp_icmp_eq (tgt := 32) dX8_lastsOf_24 (by decide) (fun h24 => ?_) (fun h24 => ?_)
    · refine wp_iload_n dX8_lastsOf_32 rfl rfl ?_
      refine wp_iconst dX8_lastsOf_33 (by decide) ?_
      refine wp_iadd dX8_lastsOf_34 (by omega) ?_
      refine wp_goto (tgt := 70) dX8_lastsOf_35 (by decide) ?_
      refine wp_iconst dX8_lastsOf_70 (by decide) ?_
      refine wp_bipush dX8_lastsOf_71 (by decide) (by decide) ?_
      refine wp_callS0 (d' := d - 1) cs_RX8_355 [(0, ((wthn 0 40 (E (A.1 1).toNat 1 (nmA A false x (-1)))) + 2)), (0, 1), (0, 40)] [] rfl rfl (Nat.le_of_ble_eq_true rfl) dX8_lastsOf_73 rfl (Nat.le_of_ble_eq_true rfl) (by omega) (loc1 := [(0, ((wthn 0 40 (E (A.1 1).toNat 1 (nmA A false x (-1)))) + 2)), (0, 1), (0, 40)]) rfl ?_
      refine sp_withm ((wthn 0 40 (E (A.1 1).toNat 1 (nmA A false x (-1)))) + 2) 1 40 ?_
      refine wp_iret rfl dX8_lastsOf_76 ?_
      have q := k M1 F1
      unfold lastsA at q
      rw [show lastsK (A.2 0 x.toNat) _ (A.2 1 x.toNat) = ((wthn 0 40 (E (A.1 1).toNat 1 (nmA A false x (-1)))) + 2) by unfold lastsK; repeat (first | rw [if_pos (by omega)] | rw [if_neg (by omega)])] at q
      exact q
    · refine wp_iload_n dX8_lastsOf_27 rfl rfl ?_
      refine wp_iconst dX8_lastsOf_28 (by decide) ?_
      refine wp_icmp_ne (tgt := 38) dX8_lastsOf_29 (by decide) (fun h29 => ?_) (fun h29 => ?_)
      · refine wp_iload_n dX8_lastsOf_38 rfl rfl ?_
        refine wp_iconst dX8_lastsOf_39 (by decide) ?_
        refine wp_icmp_ne (tgt := 49) dX8_lastsOf_40 (by decide) (fun h40 => ?_) (fun h40 => ?_)
        · refine wp_iload_n dX8_lastsOf_49 rfl rfl ?_
          refine wp_iconst dX8_lastsOf_50 (by decide) ?_
          refine wp_icmp_ne (tgt := 69) dX8_lastsOf_51 (by decide) (fun h51 => ?_) (fun h51 => ?_)
          · refine wp_iload_n dX8_lastsOf_69 rfl rfl ?_
            refine wp_iconst dX8_lastsOf_70 (by decide) ?_
            refine wp_bipush dX8_lastsOf_71 (by decide) (by decide) ?_
            refine wp_callS0 (d' := d - 1) cs_RX8_355 [(0, (wthn 0 40 (E (A.1 1).toNat 1 (nmA A false x (-1))))), (0, 1), (0, 40)] [] rfl rfl (Nat.le_of_ble_eq_true rfl) dX8_lastsOf_73 rfl (Nat.le_of_ble_eq_true rfl) (by omega) (loc1 := [(0, (wthn 0 40 (E (A.1 1).toNat 1 (nmA A false x (-1))))), (0, 1), (0, 40)]) rfl ?_
            refine sp_withm (wthn 0 40 (E (A.1 1).toNat 1 (nmA A false x (-1)))) 1 40 ?_
            refine wp_iret rfl dX8_lastsOf_76 ?_
            have q := k M1 F1
            unfold lastsA at q
            rw [show lastsK (A.2 0 x.toNat) _ (A.2 1 x.toNat) = (wthn 0 40 (E (A.1 1).toNat 1 (nmA A false x (-1)))) by unfold lastsK; repeat (first | rw [if_pos (by omega)] | rw [if_neg (by omega)])] at q
            exact q
          · refine wp_iload_n dX8_lastsOf_54 rfl rfl ?_
            refine wp_iconst dX8_lastsOf_55 (by decide) ?_
            refine wp_idiv dX8_lastsOf_56 (by omega) ?_
            refine wp_aload_n dX8_lastsOf_57 rfl rfl ?_
            refine wp_get 69 rfl fl_RX8_26 rfl ⟨by omega, by omega⟩ dX8_lastsOf_58 rfl (v := 74) (sr_69_9 (M := M1) R1) ?_
            refine wp_iconst dX8_lastsOf_61 (by decide) ?_
            refine wp_iload_n dX8_lastsOf_62 rfl rfl ?_
            refine wp_imul dX8_lastsOf_63 (by omega) ?_
            refine wp_iald 74 rfl rfl ⟨by omega, by omega⟩ ⟨by omega, by omega⟩ dX8_lastsOf_64 (v := (A.2 1 x.toNat)) (by rw [show ((4 * x)).toNat = (4 * x.toNat) by omega]; exact A1.2.2.2.2.2.1 0 x.toNat (by omega) (by omega)) ?_
            refine wp_iaddw dX8_lastsOf_65 ?_
            refine wp_goto (tgt := 70) dX8_lastsOf_66 (by decide) ?_
            refine wp_iconst dX8_lastsOf_70 (by decide) ?_
            refine wp_bipush dX8_lastsOf_71 (by decide) (by decide) ?_
            refine wp_callS0 (d' := d - 1) cs_RX8_355 [(0, (wrap ((Int.tdiv (wthn 0 40 (E (A.1 1).toNat 1 (nmA A false x (-1)))) 2) + (A.2 1 x.toNat)))), (0, 1), (0, 40)] [] rfl rfl (Nat.le_of_ble_eq_true rfl) dX8_lastsOf_73 rfl (Nat.le_of_ble_eq_true rfl) (by omega) (loc1 := [(0, (wrap ((Int.tdiv (wthn 0 40 (E (A.1 1).toNat 1 (nmA A false x (-1)))) 2) + (A.2 1 x.toNat)))), (0, 1), (0, 40)]) rfl ?_
            refine sp_withm (wrap ((Int.tdiv (wthn 0 40 (E (A.1 1).toNat 1 (nmA A false x (-1)))) 2) + (A.2 1 x.toNat))) 1 40 ?_
            refine wp_iret rfl dX8_lastsOf_76 ?_
            have q := k M1 F1
            unfold lastsA at q
            rw [show lastsK (A.2 0 x.toNat) _ (A.2 1 x.toNat) = (wrap ((Int.tdiv (wthn 0 40 (E (A.1 1).toNat 1 (nmA A false x (-1)))) 2) + (A.2 1 x.toNat))) by unfold lastsK; repeat (first | rw [if_pos (by omega)] | rw [if_neg (by omega)])] at q
            exact q
        · refine wp_iload_n dX8_lastsOf_43 rfl rfl ?_
          refine wp_iconst dX8_lastsOf_44 (by decide) ?_
          refine wp_idiv dX8_lastsOf_45 (by omega) ?_
          refine wp_goto (tgt := 70) dX8_lastsOf_46 (by decide) ?_
          refine wp_iconst dX8_lastsOf_70 (by decide) ?_
          refine wp_bipush dX8_lastsOf_71 (by decide) (by decide) ?_
          refine wp_callS0 (d' := d - 1) cs_RX8_355 [(0, (Int.tdiv (wthn 0 40 (E (A.1 1).toNat 1 (nmA A false x (-1)))) 2)), (0, 1), (0, 40)] [] rfl rfl (Nat.le_of_ble_eq_true rfl) dX8_lastsOf_73 rfl (Nat.le_of_ble_eq_true rfl) (by omega) (loc1 := [(0, (Int.tdiv (wthn 0 40 (E (A.1 1).toNat 1 (nmA A false x (-1)))) 2)), (0, 1), (0, 40)]) rfl ?_
          refine sp_withm (Int.tdiv (wthn 0 40 (E (A.1 1).toNat 1 (nmA A false x (-1)))) 2) 1 40 ?_
          refine wp_iret rfl dX8_lastsOf_76 ?_
          have q := k M1 F1
          unfold lastsA at q
          rw [show lastsK (A.2 0 x.toNat) _ (A.2 1 x.toNat) = (Int.tdiv (wthn 0 40 (E (A.1 1).toNat 1 (nmA A false x (-1)))) 2) by unfold lastsK; repeat (first | rw [if_pos (by omega)] | rw [if_neg (by omega)])] at q
          exact q
      · refine wp_iload_n dX8_lastsOf_32 rfl rfl ?_
        refine wp_iconst dX8_lastsOf_33 (by decide) ?_
        refine wp_iadd dX8_lastsOf_34 (by omega) ?_
        refine wp_goto (tgt := 70) dX8_lastsOf_35 (by decide) ?_
        refine wp_iconst dX8_lastsOf_70 (by decide) ?_
        refine wp_bipush dX8_lastsOf_71 (by decide) (by decide) ?_
        refine wp_callS0 (d' := d - 1) cs_RX8_355 [(0, ((wthn 0 40 (E (A.1 1).toNat 1 (nmA A false x (-1)))) + 2)), (0, 1), (0, 40)] [] rfl rfl (Nat.le_of_ble_eq_true rfl) dX8_lastsOf_73 rfl (Nat.le_of_ble_eq_true rfl) (by omega) (loc1 := [(0, ((wthn 0 40 (E (A.1 1).toNat 1 (nmA A false x (-1)))) + 2)), (0, 1), (0, 40)]) rfl ?_
        refine sp_withm ((wthn 0 40 (E (A.1 1).toNat 1 (nmA A false x (-1)))) + 2) 1 40 ?_
        refine wp_iret rfl dX8_lastsOf_76 ?_
        have q := k M1 F1
        unfold lastsA at q
        rw [show lastsK (A.2 0 x.toNat) _ (A.2 1 x.toNat) = ((wthn 0 40 (E (A.1 1).toNat 1 (nmA A false x (-1)))) + 2) by unfold lastsK; repeat (first | rw [if_pos (by omega)] | rw [if_neg (by omega)])] at q
        exact q
  · refine wp_iconst dX8_lastsOf_12 (by decide) ?_
    refine wp_iret rfl dX8_lastsOf_13 ?_
    have q := k M Fr.rf
    unfold lastsA at q
    rw [show lastsK (A.2 0 x.toNat) _ (A.2 1 x.toNat) = 1 by unfold lastsK; repeat (first | rw [if_pos (by omega)] | rw [if_neg (by omega)])] at q
    exact q
set_option maxRecDepth 20000 in
set_option maxHeartbeats 4000000 in
theorem sp_irm {l : Launch} {g : Gw} {d n : Nat} {M : Mm} {Q : Option Wd → Mm → Prop} (hn : 90 ≤ n) {A : Ls} {E : Ev} (hI : MJ M A E) (hd : 65 ≤ d) (x : Int) (hx : 0 ≤ x ∧ x < A.1 2) (k : ∀ M', Fr VMs M M' → Q (some (0, irksA E A x)) M') : Wp l g d 0 0 n m_X8_irksOf 0 [] [(2, 69), (0, x), (9, 0), (9, 0)] M Q := by
  obtain ⟨hR, hA, hW, hr, hX⟩ := id hI
  have w2 := hW.1
  have w5 := hW.2.1
  have w3 := hW.2.2.1
  have w32 := hW.2.2.2.1
  refine wp_aload_n dX8_irksOf_0 rfl rfl ?_
  refine wp_get 69 rfl fl_RX8_23 rfl ⟨by omega, by omega⟩ dX8_irksOf_1 rfl (v := 73) (sr_69_8 (M := M) hR) ?_
  refine wp_iload_n dX8_irksOf_4 rfl rfl ?_
  refine wp_iald 73 rfl rfl ⟨by omega, by omega⟩ ⟨by omega, by omega⟩ dX8_irksOf_5 (v := (A.2 0 x.toNat)) (by rw [show (x).toNat = x.toNat by omega]; exact hA.2.2.2.2.1 x.toNat (by omega)) ?_
  refine wp_istore_n (loc' := [(2, 69), (0, x), (0, (A.2 0 x.toNat)), (9, 0)]) dX8_irksOf_6 rfl (Nat.le_of_ble_eq_true rfl) rfl ?_
  refine wp_iload_n dX8_irksOf_7 rfl rfl ?_
  refine wp_iconst dX8_irksOf_8 (by decide) ?_
  refine wp_icmp_ne (tgt := 14) dX8_irksOf_9 (by decide) (fun h9 => ?_) (fun h9 => ?_)
  · refine wp_aload_n dX8_irksOf_14 rfl rfl ?_
    refine wp_iconst dX8_irksOf_15 (by decide) ?_
    refine wp_iload_n dX8_irksOf_16 rfl rfl ?_
    refine wp_iload_n dX8_irksOf_17 rfl rfl ?_
    refine wp_callV0 (d' := d - 1) cv_RX8_359 69 rfl [(0, 2), (0, x), (0, x)] [] rfl rfl (Or.inl ⟨_, _, rfl, by decide, rfl, by omega, by omega⟩) (by omega) (Nat.le_of_ble_eq_true rfl) dX8_irksOf_18 rfl (Nat.le_of_ble_eq_true rfl) (by omega) (loc1 := [(2, 69), (0, 2), (0, x), (0, x), (9, 0)]) rfl ?_
    refine sp_says2 hn hI (by omega) x x hx hx (fun M1 F1 => ?_)
    have I1 := hI.frs F1
    obtain ⟨R1, A1, _, _, _⟩ := id I1
    have hw := wthn_r (lo := 0) (hi := 99) (v := E (A.1 1).toNat 2 (nmA A false x (-1))) (by decide)
    refine wp_istore_n (loc' := [(2, 69), (0, x), (0, (A.2 0 x.toNat)), (0, (wthn 0 99 (E (A.1 1).toNat 2 (nmA A false x (-1)))))]) dX8_irksOf_21 rfl (Nat.le_of_ble_eq_true rfl) rfl ?_
    refine wp_iload_n dX8_irksOf_22 rfl rfl ?_
    refine wp_iconst dX8_irksOf_23 (by decide) ?_
    refine wp_icmp_eq (tgt := 32) dX8_irksOf_24 (by decide) (fun h24 => ?_) (fun h24 => ?_)
    · refine wp_iconst dX8_irksOf_32 (by decide) ?_
      refine wp_iload_n dX8_irksOf_33 rfl rfl ?_
      refine wp_imul dX8_irksOf_34 (by omega) ?_
      refine wp_goto (tgt := 57) dX8_irksOf_35 (by decide) ?_
      refine wp_iconst dX8_irksOf_57 (by decide) ?_
      refine wp_bipush dX8_irksOf_58 (by decide) (by decide) ?_
      refine wp_callS0 (d' := d - 1) cs_RX8_355 [(0, (2 * (wthn 0 99 (E (A.1 1).toNat 2 (nmA A false x (-1)))))), (0, 0), (0, 99)] [] rfl rfl (Nat.le_of_ble_eq_true rfl) dX8_irksOf_60 rfl (Nat.le_of_ble_eq_true rfl) (by omega) (loc1 := [(0, (2 * (wthn 0 99 (E (A.1 1).toNat 2 (nmA A false x (-1)))))), (0, 0), (0, 99)]) rfl ?_
      refine sp_withm (2 * (wthn 0 99 (E (A.1 1).toNat 2 (nmA A false x (-1))))) 0 99 ?_
      refine wp_iret rfl dX8_irksOf_63 ?_
      have q := k M1 F1
      unfold irksA at q
      rw [show irksK (A.2 0 x.toNat) _ (A.2 1 x.toNat) = (2 * (wthn 0 99 (E (A.1 1).toNat 2 (nmA A false x (-1))))) by unfold irksK; repeat (first | rw [if_pos (by omega)] | rw [if_neg (by omega)])] at q
      exact q
    · refine wp_iload_n dX8_irksOf_27 rfl rfl ?_
      refine wp_iconst dX8_irksOf_28 (by decide) ?_
      refine wp_icmp_ne (tgt := 38) dX8_irksOf_29 (by decide) (fun h29 => ?_) (fun h29 => ?_)
      · refine wp_iload_n dX8_irksOf_38 rfl rfl ?_
        refine wp_iconst dX8_irksOf_39 (by decide) ?_
        refine wp_icmp_ne (tgt := 56) dX8_irksOf_40 (by decide) (fun h40 => ?_) (fun h40 => ?_)
        · refine wp_iload_n dX8_irksOf_56 rfl rfl ?_
          refine wp_iconst dX8_irksOf_57 (by decide) ?_
          refine wp_bipush dX8_irksOf_58 (by decide) (by decide) ?_
          refine wp_callS0 (d' := d - 1) cs_RX8_355 [(0, (wthn 0 99 (E (A.1 1).toNat 2 (nmA A false x (-1))))), (0, 0), (0, 99)] [] rfl rfl (Nat.le_of_ble_eq_true rfl) dX8_irksOf_60 rfl (Nat.le_of_ble_eq_true rfl) (by omega) (loc1 := [(0, (wthn 0 99 (E (A.1 1).toNat 2 (nmA A false x (-1))))), (0, 0), (0, 99)]) rfl ?_
          refine sp_withm (wthn 0 99 (E (A.1 1).toNat 2 (nmA A false x (-1)))) 0 99 ?_
          refine wp_iret rfl dX8_irksOf_63 ?_
          have q := k M1 F1
          unfold irksA at q
          rw [show irksK (A.2 0 x.toNat) _ (A.2 1 x.toNat) = (wthn 0 99 (E (A.1 1).toNat 2 (nmA A false x (-1)))) by unfold irksK; repeat (first | rw [if_pos (by omega)] | rw [if_neg (by omega)])] at q
          exact q
        · refine wp_iload_n dX8_irksOf_43 rfl rfl ?_
          refine wp_aload_n dX8_irksOf_44 rfl rfl ?_
          refine wp_get 69 rfl fl_RX8_26 rfl ⟨by omega, by omega⟩ dX8_irksOf_45 rfl (v := 74) (sr_69_9 (M := M1) R1) ?_
          refine wp_iconst dX8_irksOf_48 (by decide) ?_
          refine wp_iload_n dX8_irksOf_49 rfl rfl ?_
          refine wp_imul dX8_irksOf_50 (by omega) ?_
          refine wp_iald 74 rfl rfl ⟨by omega, by omega⟩ ⟨by omega, by omega⟩ dX8_irksOf_51 (v := (A.2 1 x.toNat)) (by rw [show ((4 * x)).toNat = (4 * x.toNat) by omega]; exact A1.2.2.2.2.2.1 0 x.toNat (by omega) (by omega)) ?_
          refine wp_iaddw dX8_irksOf_52 ?_
          refine wp_goto (tgt := 57) dX8_irksOf_53 (by decide) ?_
          refine wp_iconst dX8_irksOf_57 (by decide) ?_
          refine wp_bipush dX8_irksOf_58 (by decide) (by decide) ?_
          refine wp_callS0 (d' := d - 1) cs_RX8_355 [(0, (wrap ((wthn 0 99 (E (A.1 1).toNat 2 (nmA A false x (-1)))) + (A.2 1 x.toNat)))), (0, 0), (0, 99)] [] rfl rfl (Nat.le_of_ble_eq_true rfl) dX8_irksOf_60 rfl (Nat.le_of_ble_eq_true rfl) (by omega) (loc1 := [(0, (wrap ((wthn 0 99 (E (A.1 1).toNat 2 (nmA A false x (-1)))) + (A.2 1 x.toNat)))), (0, 0), (0, 99)]) rfl ?_
          refine sp_withm (wrap ((wthn 0 99 (E (A.1 1).toNat 2 (nmA A false x (-1)))) + (A.2 1 x.toNat))) 0 99 ?_
          refine wp_iret rfl dX8_irksOf_63 ?_
          have q := k M1 F1
          unfold irksA at q
          rw [show irksK (A.2 0 x.toNat) _ (A.2 1 x.toNat) = (wrap ((wthn 0 99 (E (A.1 1).toNat 2 (nmA A false x (-1)))) + (A.2 1 x.toNat))) by unfold irksK; repeat (first | rw [if_pos (by omega)] | rw [if_neg (by omega)])] at q
          exact q
      · refine wp_iconst dX8_irksOf_32 (by decide) ?_
        refine wp_iload_n dX8_irksOf_33 rfl rfl ?_
        refine wp_imul dX8_irksOf_34 (by omega) ?_
        refine wp_goto (tgt := 57) dX8_irksOf_35 (by decide) ?_
        refine wp_iconst dX8_irksOf_57 (by decide) ?_
        refine wp_bipush dX8_irksOf_58 (by decide) (by decide) ?_
        refine wp_callS0 (d' := d - 1) cs_RX8_355 [(0, (2 * (wthn 0 99 (E (A.1 1).toNat 2 (nmA A false x (-1)))))), (0, 0), (0, 99)] [] rfl rfl (Nat.le_of_ble_eq_true rfl) dX8_irksOf_60 rfl (Nat.le_of_ble_eq_true rfl) (by omega) (loc1 := [(0, (2 * (wthn 0 99 (E (A.1 1).toNat 2 (nmA A false x (-1)))))), (0, 0), (0, 99)]) rfl ?_
        refine sp_withm (2 * (wthn 0 99 (E (A.1 1).toNat 2 (nmA A false x (-1))))) 0 99 ?_
        refine wp_iret rfl dX8_irksOf_63 ?_
        have q := k M1 F1
        unfold irksA at q
        rw [show irksK (A.2 0 x.toNat) _ (A.2 1 x.toNat) = (2 * (wthn 0 99 (E (A.1 1).toNat 2 (nmA A false x (-1))))) by unfold irksK; repeat (first | rw [if_pos (by omega)] | rw [if_neg (by omega)])] at q
        exact q
  · refine wp_iconst dX8_irksOf_12 (by decide) ?_
    refine wp_iret rfl dX8_irksOf_13 ?_
    have q := k M Fr.rf
    unfold irksA at q
    rw [show irksK (A.2 0 x.toNat) _ (A.2 1 x.toNat) = 0 by unfold irksK; repeat (first | rw [if_pos (by omega)] | rw [if_neg (by omega)])] at q
    exact q
set_option maxRecDepth 20000 in
set_option maxHeartbeats 4000000 in
theorem sp_tolm_0 {l : Launch} {g : Gw} {d n : Nat} {M : Mm} {Q : Option Wd → Mm → Prop} (hn : 90 ≤ n) {A : Ls} {E : Ev} (hI : MJ M A E) (hd : 66 ≤ d) (o : Int) (k : ∀ M', Fr VMs M M' → Q (some (0, toldA E A o 0)) M') : Wp l g d 0 0 n m_X8_told 0 [] [(2, 69), (0, o), (0, 0)] M Q := by
  obtain ⟨hR, hA, hW, hr, hX⟩ := id hI
  have w2 := hW.1
  have w5 := hW.2.1
  have w3 := hW.2.2.1
  have w32 := hW.2.2.2.1
  refine wp_iload_n dX8_told_0 rfl rfl ?_
  refine wp_i2l dX8_told_1 ?_
  refine wp_lconst (v := 0) dX8_told_2 (by decide) (by decide) ?_
  refine wp_ldc2 (x := 14) dX8_told_3 kl_RX8_126 (by decide) (wr_l (by omega)) ?_
  refine wp_callS0 (d' := d - 1) cs_RX8_91 [(1, 0), (1, 0), (1, 14)] [] rfl rfl (Nat.le_of_ble_eq_true rfl) dX8_told_6 rfl (Nat.le_of_ble_eq_true rfl) (by omega) (loc1 := [(1, 0), (9, 0), (1, 0), (9, 0), (1, 14), (9, 0)]) rfl ?_
  refine sp_in 0 0 14 (fun _ => ?_) (fun h => absurd (by decide) h)
  refine wp_if_eq (tgt := 24) dX8_told_9 (by decide) (fun h => absurd h (by decide)) (fun _ => ?_)
  refine wp_iload_n dX8_told_12 rfl rfl ?_
  refine wp_if_le (tgt := 27) dX8_told_13 (by decide) (fun _ => ?_) (fun h => absurd h (by decide))
  refine wp_iload_n dX8_told_27 rfl rfl ?_
  refine wp_bipush dX8_told_28 (by decide) (by decide) ?_
  refine wp_icmp_ge (tgt := 71) dX8_told_30 (by decide) (fun h => absurd h (by decide)) (fun _ => ?_)
  refine wp_iload_n dX8_told_33 rfl rfl ?_
  refine wp_if_ne (tgt := 44) dX8_told_34 (by decide) (fun h => absurd h (by decide)) (fun _ => ?_)
  refine wp_aload_n dX8_told_37 rfl rfl ?_
  refine wp_get 69 rfl fl_RX8_113 rfl ⟨by omega, by omega⟩ dX8_told_38 rfl (v := (A.1 0)) (hA.1) ?_
  refine wp_goto (tgt := 70) dX8_told_41 (by decide) ?_
  refine wp_iret rfl dX8_told_70 ?_
  exact k M Fr.rf
set_option maxRecDepth 20000 in
set_option maxHeartbeats 4000000 in
theorem sp_tolm_1 {l : Launch} {g : Gw} {d n : Nat} {M : Mm} {Q : Option Wd → Mm → Prop} (hn : 90 ≤ n) {A : Ls} {E : Ev} (hI : MJ M A E) (hd : 66 ≤ d) (o : Int) (k : ∀ M', Fr VMs M M' → Q (some (0, toldA E A o 1)) M') : Wp l g d 0 0 n m_X8_told 0 [] [(2, 69), (0, o), (0, 1)] M Q := by
  obtain ⟨hR, hA, hW, hr, hX⟩ := id hI
  have w2 := hW.1
  have w5 := hW.2.1
  have w3 := hW.2.2.1
  have w32 := hW.2.2.2.1
  refine wp_iload_n dX8_told_0 rfl rfl ?_
  refine wp_i2l dX8_told_1 ?_
  refine wp_lconst (v := 0) dX8_told_2 (by decide) (by decide) ?_
  refine wp_ldc2 (x := 14) dX8_told_3 kl_RX8_126 (by decide) (wr_l (by omega)) ?_
  refine wp_callS0 (d' := d - 1) cs_RX8_91 [(1, 1), (1, 0), (1, 14)] [] rfl rfl (Nat.le_of_ble_eq_true rfl) dX8_told_6 rfl (Nat.le_of_ble_eq_true rfl) (by omega) (loc1 := [(1, 1), (9, 0), (1, 0), (9, 0), (1, 14), (9, 0)]) rfl ?_
  refine sp_in 1 0 14 (fun _ => ?_) (fun h => absurd (by decide) h)
  refine wp_if_eq (tgt := 24) dX8_told_9 (by decide) (fun h => absurd h (by decide)) (fun _ => ?_)
  refine wp_iload_n dX8_told_12 rfl rfl ?_
  refine wp_if_le (tgt := 27) dX8_told_13 (by decide) (fun h => absurd h (by decide)) (fun _ => ?_)
  refine wp_aload_n dX8_told_16 rfl rfl ?_
  refine wp_iload_n dX8_told_17 rfl rfl ?_
  refine wp_callV0 (d' := d - 1) cv_RX8_97 69 rfl [(0, o)] [] rfl rfl (Or.inl ⟨_, _, rfl, by decide, rfl, by omega, by omega⟩) (by omega) (Nat.le_of_ble_eq_true rfl) dX8_told_18 rfl (Nat.le_of_ble_eq_true rfl) (by omega) (loc1 := [(2, 69), (0, o)]) rfl ?_
  refine sp_isOne hn hI (by omega) o (fun o18 => ?_) (fun o18 => ?_)
  · refine wp_if_ne (tgt := 27) dX8_told_21 (by decide) (fun _ => ?_) (fun h => absurd h (by decide))
    refine wp_iload_n dX8_told_27 rfl rfl ?_
    refine wp_bipush dX8_told_28 (by decide) (by decide) ?_
    refine wp_icmp_ge (tgt := 71) dX8_told_30 (by decide) (fun h => absurd h (by decide)) (fun _ => ?_)
    refine wp_iload_n dX8_told_33 rfl rfl ?_
    refine wp_if_ne (tgt := 44) dX8_told_34 (by decide) (fun _ => ?_) (fun h => absurd h (by decide))
    refine wp_iload_n dX8_told_44 rfl rfl ?_
    refine wp_iconst dX8_told_45 (by decide) ?_
    refine wp_icmp_ge (tgt := 64) dX8_told_46 (by decide) (fun h => absurd h (by decide)) (fun _ => ?_)
    refine wp_aload_n dX8_told_49 rfl rfl ?_
    refine wp_get 69 rfl fl_RX8_26 rfl ⟨by omega, by omega⟩ dX8_told_50 rfl (v := 74) (sr_69_9 (M := M) hR) ?_
    refine wp_iconst dX8_told_53 (by decide) ?_
    refine wp_iload_n dX8_told_54 rfl rfl ?_
    refine wp_imul dX8_told_55 (by omega) ?_
    refine wp_iload_n dX8_told_56 rfl rfl ?_
    refine wp_iadd dX8_told_57 (by omega) ?_
    refine wp_iconst dX8_told_58 (by decide) ?_
    refine wp_isub dX8_told_59 (by omega) ?_
    refine wp_iald 74 rfl rfl ⟨by omega, by omega⟩ ⟨by omega, by omega⟩ dX8_told_60 (v := (A.2 1 o.toNat)) (by rw [show ((((4 * o) + 1) - 1)).toNat = (4 * o.toNat) by omega]; exact hA.2.2.2.2.2.1 0 o.toNat (by omega) (by omega)) ?_
    refine wp_goto (tgt := 70) dX8_told_61 (by decide) ?_
    refine wp_iret rfl dX8_told_70 ?_
    have q := k M Fr.rf
    rw [show toldA E A o 1 = (A.2 1 o.toNat) from (if_neg (by decide)).trans ((if_neg (by omega)).trans rfl)] at q
    exact q
  · refine wp_if_ne (tgt := 27) dX8_told_21 (by decide) (fun h => absurd h (by decide)) (fun _ => ?_)
    refine wp_bipush dX8_told_24 (by decide) (by decide) ?_
    refine wp_iret rfl dX8_told_26 ?_
    have q := k M Fr.rf
    rw [show toldA E A o 1 = -2 from (if_neg (by decide)).trans (if_pos (by omega))] at q
    exact q
set_option maxRecDepth 20000 in
set_option maxHeartbeats 4000000 in
theorem sp_tolm_2 {l : Launch} {g : Gw} {d n : Nat} {M : Mm} {Q : Option Wd → Mm → Prop} (hn : 90 ≤ n) {A : Ls} {E : Ev} (hI : MJ M A E) (hd : 66 ≤ d) (o : Int) (k : ∀ M', Fr VMs M M' → Q (some (0, toldA E A o 2)) M') : Wp l g d 0 0 n m_X8_told 0 [] [(2, 69), (0, o), (0, 2)] M Q := by
  obtain ⟨hR, hA, hW, hr, hX⟩ := id hI
  have w2 := hW.1
  have w5 := hW.2.1
  have w3 := hW.2.2.1
  have w32 := hW.2.2.2.1
  refine wp_iload_n dX8_told_0 rfl rfl ?_
  refine wp_i2l dX8_told_1 ?_
  refine wp_lconst (v := 0) dX8_told_2 (by decide) (by decide) ?_
  refine wp_ldc2 (x := 14) dX8_told_3 kl_RX8_126 (by decide) (wr_l (by omega)) ?_
  refine wp_callS0 (d' := d - 1) cs_RX8_91 [(1, 2), (1, 0), (1, 14)] [] rfl rfl (Nat.le_of_ble_eq_true rfl) dX8_told_6 rfl (Nat.le_of_ble_eq_true rfl) (by omega) (loc1 := [(1, 2), (9, 0), (1, 0), (9, 0), (1, 14), (9, 0)]) rfl ?_
  refine sp_in 2 0 14 (fun _ => ?_) (fun h => absurd (by decide) h)
  refine wp_if_eq (tgt := 24) dX8_told_9 (by decide) (fun h => absurd h (by decide)) (fun _ => ?_)
  refine wp_iload_n dX8_told_12 rfl rfl ?_
  refine wp_if_le (tgt := 27) dX8_told_13 (by decide) (fun h => absurd h (by decide)) (fun _ => ?_)
  refine wp_aload_n dX8_told_16 rfl rfl ?_
  refine wp_iload_n dX8_told_17 rfl rfl ?_
  refine wp_callV0 (d' := d - 1) cv_RX8_97 69 rfl [(0, o)] [] rfl rfl (Or.inl ⟨_, _, rfl, by decide, rfl, by omega, by omega⟩) (by omega) (Nat.le_of_ble_eq_true rfl) dX8_told_18 rfl (Nat.le_of_ble_eq_true rfl) (by omega) (loc1 := [(2, 69), (0, o)]) rfl ?_
  refine sp_isOne hn hI (by omega) o (fun o18 => ?_) (fun o18 => ?_)
  · refine wp_if_ne (tgt := 27) dX8_told_21 (by decide) (fun _ => ?_) (fun h => absurd h (by decide))
    refine wp_iload_n dX8_told_27 rfl rfl ?_
    refine wp_bipush dX8_told_28 (by decide) (by decide) ?_
    refine wp_icmp_ge (tgt := 71) dX8_told_30 (by decide) (fun h => absurd h (by decide)) (fun _ => ?_)
    refine wp_iload_n dX8_told_33 rfl rfl ?_
    refine wp_if_ne (tgt := 44) dX8_told_34 (by decide) (fun _ => ?_) (fun h => absurd h (by decide))
    refine wp_iload_n dX8_told_44 rfl rfl ?_
    refine wp_iconst dX8_told_45 (by decide) ?_
    refine wp_icmp_ge (tgt := 64) dX8_told_46 (by decide) (fun h => absurd h (by decide)) (fun _ => ?_)
    refine wp_aload_n dX8_told_49 rfl rfl ?_
    refine wp_get 69 rfl fl_RX8_26 rfl ⟨by omega, by omega⟩ dX8_told_50 rfl (v := 74) (sr_69_9 (M := M) hR) ?_
    refine wp_iconst dX8_told_53 (by decide) ?_
    refine wp_iload_n dX8_told_54 rfl rfl ?_
    refine wp_imul dX8_told_55 (by omega) ?_
    refine wp_iload_n dX8_told_56 rfl rfl ?_
    refine wp_iadd dX8_told_57 (by omega) ?_
    refine wp_iconst dX8_told_58 (by decide) ?_
    refine wp_isub dX8_told_59 (by omega) ?_
    refine wp_iald 74 rfl rfl ⟨by omega, by omega⟩ ⟨by omega, by omega⟩ dX8_told_60 (v := (A.2 2 o.toNat)) (by rw [show ((((4 * o) + 2) - 1)).toNat = (4 * o.toNat + 1) by omega]; exact hA.2.2.2.2.2.1 1 o.toNat (by omega) (by omega)) ?_
    refine wp_goto (tgt := 70) dX8_told_61 (by decide) ?_
    refine wp_iret rfl dX8_told_70 ?_
    have q := k M Fr.rf
    rw [show toldA E A o 2 = (A.2 2 o.toNat) from (if_neg (by decide)).trans ((if_neg (by omega)).trans rfl)] at q
    exact q
  · refine wp_if_ne (tgt := 27) dX8_told_21 (by decide) (fun h => absurd h (by decide)) (fun _ => ?_)
    refine wp_bipush dX8_told_24 (by decide) (by decide) ?_
    refine wp_iret rfl dX8_told_26 ?_
    have q := k M Fr.rf
    rw [show toldA E A o 2 = -2 from (if_neg (by decide)).trans (if_pos (by omega))] at q
    exact q
set_option maxRecDepth 20000 in
set_option maxHeartbeats 4000000 in
theorem sp_tolm_3 {l : Launch} {g : Gw} {d n : Nat} {M : Mm} {Q : Option Wd → Mm → Prop} (hn : 90 ≤ n) {A : Ls} {E : Ev} (hI : MJ M A E) (hd : 66 ≤ d) (o : Int) (k : ∀ M', Fr VMs M M' → Q (some (0, toldA E A o 3)) M') : Wp l g d 0 0 n m_X8_told 0 [] [(2, 69), (0, o), (0, 3)] M Q := by
  obtain ⟨hR, hA, hW, hr, hX⟩ := id hI
  have w2 := hW.1
  have w5 := hW.2.1
  have w3 := hW.2.2.1
  have w32 := hW.2.2.2.1
  refine wp_iload_n dX8_told_0 rfl rfl ?_
  refine wp_i2l dX8_told_1 ?_
  refine wp_lconst (v := 0) dX8_told_2 (by decide) (by decide) ?_
  refine wp_ldc2 (x := 14) dX8_told_3 kl_RX8_126 (by decide) (wr_l (by omega)) ?_
  refine wp_callS0 (d' := d - 1) cs_RX8_91 [(1, 3), (1, 0), (1, 14)] [] rfl rfl (Nat.le_of_ble_eq_true rfl) dX8_told_6 rfl (Nat.le_of_ble_eq_true rfl) (by omega) (loc1 := [(1, 3), (9, 0), (1, 0), (9, 0), (1, 14), (9, 0)]) rfl ?_
  refine sp_in 3 0 14 (fun _ => ?_) (fun h => absurd (by decide) h)
  refine wp_if_eq (tgt := 24) dX8_told_9 (by decide) (fun h => absurd h (by decide)) (fun _ => ?_)
  refine wp_iload_n dX8_told_12 rfl rfl ?_
  refine wp_if_le (tgt := 27) dX8_told_13 (by decide) (fun h => absurd h (by decide)) (fun _ => ?_)
  refine wp_aload_n dX8_told_16 rfl rfl ?_
  refine wp_iload_n dX8_told_17 rfl rfl ?_
  refine wp_callV0 (d' := d - 1) cv_RX8_97 69 rfl [(0, o)] [] rfl rfl (Or.inl ⟨_, _, rfl, by decide, rfl, by omega, by omega⟩) (by omega) (Nat.le_of_ble_eq_true rfl) dX8_told_18 rfl (Nat.le_of_ble_eq_true rfl) (by omega) (loc1 := [(2, 69), (0, o)]) rfl ?_
  refine sp_isOne hn hI (by omega) o (fun o18 => ?_) (fun o18 => ?_)
  · refine wp_if_ne (tgt := 27) dX8_told_21 (by decide) (fun _ => ?_) (fun h => absurd h (by decide))
    refine wp_iload_n dX8_told_27 rfl rfl ?_
    refine wp_bipush dX8_told_28 (by decide) (by decide) ?_
    refine wp_icmp_ge (tgt := 71) dX8_told_30 (by decide) (fun h => absurd h (by decide)) (fun _ => ?_)
    refine wp_iload_n dX8_told_33 rfl rfl ?_
    refine wp_if_ne (tgt := 44) dX8_told_34 (by decide) (fun _ => ?_) (fun h => absurd h (by decide))
    refine wp_iload_n dX8_told_44 rfl rfl ?_
    refine wp_iconst dX8_told_45 (by decide) ?_
    refine wp_icmp_ge (tgt := 64) dX8_told_46 (by decide) (fun h => absurd h (by decide)) (fun _ => ?_)
    refine wp_aload_n dX8_told_49 rfl rfl ?_
    refine wp_get 69 rfl fl_RX8_26 rfl ⟨by omega, by omega⟩ dX8_told_50 rfl (v := 74) (sr_69_9 (M := M) hR) ?_
    refine wp_iconst dX8_told_53 (by decide) ?_
    refine wp_iload_n dX8_told_54 rfl rfl ?_
    refine wp_imul dX8_told_55 (by omega) ?_
    refine wp_iload_n dX8_told_56 rfl rfl ?_
    refine wp_iadd dX8_told_57 (by omega) ?_
    refine wp_iconst dX8_told_58 (by decide) ?_
    refine wp_isub dX8_told_59 (by omega) ?_
    refine wp_iald 74 rfl rfl ⟨by omega, by omega⟩ ⟨by omega, by omega⟩ dX8_told_60 (v := (A.2 3 o.toNat)) (by rw [show ((((4 * o) + 3) - 1)).toNat = (4 * o.toNat + 2) by omega]; exact hA.2.2.2.2.2.1 2 o.toNat (by omega) (by omega)) ?_
    refine wp_goto (tgt := 70) dX8_told_61 (by decide) ?_
    refine wp_iret rfl dX8_told_70 ?_
    have q := k M Fr.rf
    rw [show toldA E A o 3 = (A.2 3 o.toNat) from (if_neg (by decide)).trans ((if_neg (by omega)).trans rfl)] at q
    exact q
  · refine wp_if_ne (tgt := 27) dX8_told_21 (by decide) (fun h => absurd h (by decide)) (fun _ => ?_)
    refine wp_bipush dX8_told_24 (by decide) (by decide) ?_
    refine wp_iret rfl dX8_told_26 ?_
    have q := k M Fr.rf
    rw [show toldA E A o 3 = -2 from (if_neg (by decide)).trans (if_pos (by omega))] at q
    exact q
set_option maxRecDepth 20000 in
set_option maxHeartbeats 4000000 in
theorem sp_tolm_4 {l : Launch} {g : Gw} {d n : Nat} {M : Mm} {Q : Option Wd → Mm → Prop} (hn : 90 ≤ n) {A : Ls} {E : Ev} (hI : MJ M A E) (hd : 66 ≤ d) (o : Int) (k : ∀ M', Fr VMs M M' → Q (some (0, toldA E A o 4)) M') : Wp l g d 0 0 n m_X8_told 0 [] [(2, 69), (0, o), (0, 4)] M Q := by
  obtain ⟨hR, hA, hW, hr, hX⟩ := id hI
  have w2 := hW.1
  have w5 := hW.2.1
  have w3 := hW.2.2.1
  have w32 := hW.2.2.2.1
  refine wp_iload_n dX8_told_0 rfl rfl ?_
  refine wp_i2l dX8_told_1 ?_
  refine wp_lconst (v := 0) dX8_told_2 (by decide) (by decide) ?_
  refine wp_ldc2 (x := 14) dX8_told_3 kl_RX8_126 (by decide) (wr_l (by omega)) ?_
  refine wp_callS0 (d' := d - 1) cs_RX8_91 [(1, 4), (1, 0), (1, 14)] [] rfl rfl (Nat.le_of_ble_eq_true rfl) dX8_told_6 rfl (Nat.le_of_ble_eq_true rfl) (by omega) (loc1 := [(1, 4), (9, 0), (1, 0), (9, 0), (1, 14), (9, 0)]) rfl ?_
  refine sp_in 4 0 14 (fun _ => ?_) (fun h => absurd (by decide) h)
  refine wp_if_eq (tgt := 24) dX8_told_9 (by decide) (fun h => absurd h (by decide)) (fun _ => ?_)
  refine wp_iload_n dX8_told_12 rfl rfl ?_
  refine wp_if_le (tgt := 27) dX8_told_13 (by decide) (fun h => absurd h (by decide)) (fun _ => ?_)
  refine wp_aload_n dX8_told_16 rfl rfl ?_
  refine wp_iload_n dX8_told_17 rfl rfl ?_
  refine wp_callV0 (d' := d - 1) cv_RX8_97 69 rfl [(0, o)] [] rfl rfl (Or.inl ⟨_, _, rfl, by decide, rfl, by omega, by omega⟩) (by omega) (Nat.le_of_ble_eq_true rfl) dX8_told_18 rfl (Nat.le_of_ble_eq_true rfl) (by omega) (loc1 := [(2, 69), (0, o)]) rfl ?_
  refine sp_isOne hn hI (by omega) o (fun o18 => ?_) (fun o18 => ?_)
  · refine wp_if_ne (tgt := 27) dX8_told_21 (by decide) (fun _ => ?_) (fun h => absurd h (by decide))
    refine wp_iload_n dX8_told_27 rfl rfl ?_
    refine wp_bipush dX8_told_28 (by decide) (by decide) ?_
    refine wp_icmp_ge (tgt := 71) dX8_told_30 (by decide) (fun h => absurd h (by decide)) (fun _ => ?_)
    refine wp_iload_n dX8_told_33 rfl rfl ?_
    refine wp_if_ne (tgt := 44) dX8_told_34 (by decide) (fun _ => ?_) (fun h => absurd h (by decide))
    refine wp_iload_n dX8_told_44 rfl rfl ?_
    refine wp_iconst dX8_told_45 (by decide) ?_
    refine wp_icmp_ge (tgt := 64) dX8_told_46 (by decide) (fun h => absurd h (by decide)) (fun _ => ?_)
    refine wp_aload_n dX8_told_49 rfl rfl ?_
    refine wp_get 69 rfl fl_RX8_26 rfl ⟨by omega, by omega⟩ dX8_told_50 rfl (v := 74) (sr_69_9 (M := M) hR) ?_
    refine wp_iconst dX8_told_53 (by decide) ?_
    refine wp_iload_n dX8_told_54 rfl rfl ?_
    refine wp_imul dX8_told_55 (by omega) ?_
    refine wp_iload_n dX8_told_56 rfl rfl ?_
    refine wp_iadd dX8_told_57 (by omega) ?_
    refine wp_iconst dX8_told_58 (by decide) ?_
    refine wp_isub dX8_told_59 (by omega) ?_
    refine wp_iald 74 rfl rfl ⟨by omega, by omega⟩ ⟨by omega, by omega⟩ dX8_told_60 (v := (A.2 4 o.toNat)) (by rw [show ((((4 * o) + 4) - 1)).toNat = (4 * o.toNat + 3) by omega]; exact hA.2.2.2.2.2.1 3 o.toNat (by omega) (by omega)) ?_
    refine wp_goto (tgt := 70) dX8_told_61 (by decide) ?_
    refine wp_iret rfl dX8_told_70 ?_
    have q := k M Fr.rf
    rw [show toldA E A o 4 = (A.2 4 o.toNat) from (if_neg (by decide)).trans ((if_neg (by omega)).trans rfl)] at q
    exact q
  · refine wp_if_ne (tgt := 27) dX8_told_21 (by decide) (fun h => absurd h (by decide)) (fun _ => ?_)
    refine wp_bipush dX8_told_24 (by decide) (by decide) ?_
    refine wp_iret rfl dX8_told_26 ?_
    have q := k M Fr.rf
    rw [show toldA E A o 4 = -2 from (if_neg (by decide)).trans (if_pos (by omega))] at q
    exact q
set_option maxRecDepth 20000 in
set_option maxHeartbeats 4000000 in
theorem sp_tolm_5 {l : Launch} {g : Gw} {d n : Nat} {M : Mm} {Q : Option Wd → Mm → Prop} (hn : 90 ≤ n) {A : Ls} {E : Ev} (hI : MJ M A E) (hd : 66 ≤ d) (o : Int) (k : ∀ M', Fr VMs M M' → Q (some (0, toldA E A o 5)) M') : Wp l g d 0 0 n m_X8_told 0 [] [(2, 69), (0, o), (0, 5)] M Q := by
  obtain ⟨hR, hA, hW, hr, hX⟩ := id hI
  have w2 := hW.1
  have w5 := hW.2.1
  have w3 := hW.2.2.1
  have w32 := hW.2.2.2.1
  refine wp_iload_n dX8_told_0 rfl rfl ?_
  refine wp_i2l dX8_told_1 ?_
  refine wp_lconst (v := 0) dX8_told_2 (by decide) (by decide) ?_
  refine wp_ldc2 (x := 14) dX8_told_3 kl_RX8_126 (by decide) (wr_l (by omega)) ?_
  refine wp_callS0 (d' := d - 1) cs_RX8_91 [(1, 5), (1, 0), (1, 14)] [] rfl rfl (Nat.le_of_ble_eq_true rfl) dX8_told_6 rfl (Nat.le_of_ble_eq_true rfl) (by omega) (loc1 := [(1, 5), (9, 0), (1, 0), (9, 0), (1, 14), (9, 0)]) rfl ?_
  refine sp_in 5 0 14 (fun _ => ?_) (fun h => absurd (by decide) h)
  refine wp_if_eq (tgt := 24) dX8_told_9 (by decide) (fun h => absurd h (by decide)) (fun _ => ?_)
  refine wp_iload_n dX8_told_12 rfl rfl ?_
  refine wp_if_le (tgt := 27) dX8_told_13 (by decide) (fun h => absurd h (by decide)) (fun _ => ?_)
  refine wp_aload_n dX8_told_16 rfl rfl ?_
  refine wp_iload_n dX8_told_17 rfl rfl ?_
  refine wp_callV0 (d' := d - 1) cv_RX8_97 69 rfl [(0, o)] [] rfl rfl (Or.inl ⟨_, _, rfl, by decide, rfl, by omega, by omega⟩) (by omega) (Nat.le_of_ble_eq_true rfl) dX8_told_18 rfl (Nat.le_of_ble_eq_true rfl) (by omega) (loc1 := [(2, 69), (0, o)]) rfl ?_
  refine sp_isOne hn hI (by omega) o (fun o18 => ?_) (fun o18 => ?_)
  · refine wp_if_ne (tgt := 27) dX8_told_21 (by decide) (fun _ => ?_) (fun h => absurd h (by decide))
    refine wp_iload_n dX8_told_27 rfl rfl ?_
    refine wp_bipush dX8_told_28 (by decide) (by decide) ?_
    refine wp_icmp_ge (tgt := 71) dX8_told_30 (by decide) (fun h => absurd h (by decide)) (fun _ => ?_)
    refine wp_iload_n dX8_told_33 rfl rfl ?_
    refine wp_if_ne (tgt := 44) dX8_told_34 (by decide) (fun _ => ?_) (fun h => absurd h (by decide))
    refine wp_iload_n dX8_told_44 rfl rfl ?_
    refine wp_iconst dX8_told_45 (by decide) ?_
    refine wp_icmp_ge (tgt := 64) dX8_told_46 (by decide) (fun _ => ?_) (fun h => absurd h (by decide))
    refine wp_aload_n dX8_told_64 rfl rfl ?_
    refine wp_get 69 rfl fl_RX8_23 rfl ⟨by omega, by omega⟩ dX8_told_65 rfl (v := 73) (sr_69_8 (M := M) hR) ?_
    refine wp_iload_n dX8_told_68 rfl rfl ?_
    refine wp_iald 73 rfl rfl ⟨by omega, by omega⟩ ⟨by omega, by omega⟩ dX8_told_69 (v := (A.2 0 o.toNat)) (by rw [show (o).toNat = o.toNat by omega]; exact hA.2.2.2.2.1 o.toNat (by omega)) ?_
    refine wp_iret rfl dX8_told_70 ?_
    have q := k M Fr.rf
    rw [show toldA E A o 5 = (A.2 0 o.toNat) from (if_neg (by decide)).trans ((if_neg (by omega)).trans rfl)] at q
    exact q
  · refine wp_if_ne (tgt := 27) dX8_told_21 (by decide) (fun h => absurd h (by decide)) (fun _ => ?_)
    refine wp_bipush dX8_told_24 (by decide) (by decide) ?_
    refine wp_iret rfl dX8_told_26 ?_
    have q := k M Fr.rf
    rw [show toldA E A o 5 = -2 from (if_neg (by decide)).trans (if_pos (by omega))] at q
    exact q
set_option maxRecDepth 20000 in
set_option maxHeartbeats 4000000 in
theorem sp_tolm_6 {l : Launch} {g : Gw} {d n : Nat} {M : Mm} {Q : Option Wd → Mm → Prop} (hn : 90 ≤ n) {A : Ls} {E : Ev} (hI : MJ M A E) (hd : 66 ≤ d) (o : Int) (k : ∀ M', Fr VMs M M' → Q (some (0, toldA E A o 6)) M') : Wp l g d 0 0 n m_X8_told 0 [] [(2, 69), (0, o), (0, 6)] M Q := by
  obtain ⟨hR, hA, hW, hr, hX⟩ := id hI
  have w2 := hW.1
  have w5 := hW.2.1
  have w3 := hW.2.2.1
  have w32 := hW.2.2.2.1
  refine wp_iload_n dX8_told_0 rfl rfl ?_
  refine wp_i2l dX8_told_1 ?_
  refine wp_lconst (v := 0) dX8_told_2 (by decide) (by decide) ?_
  refine wp_ldc2 (x := 14) dX8_told_3 kl_RX8_126 (by decide) (wr_l (by omega)) ?_
  refine wp_callS0 (d' := d - 1) cs_RX8_91 [(1, 6), (1, 0), (1, 14)] [] rfl rfl (Nat.le_of_ble_eq_true rfl) dX8_told_6 rfl (Nat.le_of_ble_eq_true rfl) (by omega) (loc1 := [(1, 6), (9, 0), (1, 0), (9, 0), (1, 14), (9, 0)]) rfl ?_
  refine sp_in 6 0 14 (fun _ => ?_) (fun h => absurd (by decide) h)
  refine wp_if_eq (tgt := 24) dX8_told_9 (by decide) (fun h => absurd h (by decide)) (fun _ => ?_)
  refine wp_iload_n dX8_told_12 rfl rfl ?_
  refine wp_if_le (tgt := 27) dX8_told_13 (by decide) (fun h => absurd h (by decide)) (fun _ => ?_)
  refine wp_aload_n dX8_told_16 rfl rfl ?_
  refine wp_iload_n dX8_told_17 rfl rfl ?_
  refine wp_callV0 (d' := d - 1) cv_RX8_97 69 rfl [(0, o)] [] rfl rfl (Or.inl ⟨_, _, rfl, by decide, rfl, by omega, by omega⟩) (by omega) (Nat.le_of_ble_eq_true rfl) dX8_told_18 rfl (Nat.le_of_ble_eq_true rfl) (by omega) (loc1 := [(2, 69), (0, o)]) rfl ?_
  refine sp_isOne hn hI (by omega) o (fun o18 => ?_) (fun o18 => ?_)
  · refine wp_if_ne (tgt := 27) dX8_told_21 (by decide) (fun _ => ?_) (fun h => absurd h (by decide))
    refine wp_iload_n dX8_told_27 rfl rfl ?_
    refine wp_bipush dX8_told_28 (by decide) (by decide) ?_
    refine wp_icmp_ge (tgt := 71) dX8_told_30 (by decide) (fun _ => ?_) (fun h => absurd h (by decide))
    refine wp_iload_n dX8_told_71 rfl rfl ?_
    refine wp_bipush dX8_told_72 (by decide) (by decide) ?_
    refine wp_icmp_le (tgt := 114) dX8_told_74 (by decide) (fun _ => ?_) (fun h => absurd h (by decide))
    refine wp_iload_n dX8_told_114 rfl rfl ?_
    refine wp_bipush dX8_told_115 (by decide) (by decide) ?_
    refine wp_icmp_ne (tgt := 128) dX8_told_117 (by decide) (fun h => absurd h (by decide)) (fun _ => ?_)
    refine wp_aload_n dX8_told_120 rfl rfl ?_
    refine wp_iload_n dX8_told_121 rfl rfl ?_
    refine wp_callV0 (d' := d - 1) cv_RX8_132 69 rfl [(0, o)] [] rfl rfl (Or.inl ⟨_, _, rfl, by decide, rfl, by omega, by omega⟩) (by omega) (Nat.le_of_ble_eq_true rfl) dX8_told_122 rfl (Nat.le_of_ble_eq_true rfl) (by omega) (loc1 := [(2, 69), (0, o), (9, 0)]) rfl ?_
    refine sp_plm hn hI o ?_
    refine wp_goto (tgt := 161) dX8_told_125 (by decide) ?_
    refine wp_iret rfl dX8_told_161 ?_
    have q := k M Fr.rf
    rw [show toldA E A o 6 = (plA A o) from (if_neg (by decide)).trans ((if_neg (by omega)).trans rfl)] at q
    exact q
  · refine wp_if_ne (tgt := 27) dX8_told_21 (by decide) (fun h => absurd h (by decide)) (fun _ => ?_)
    refine wp_bipush dX8_told_24 (by decide) (by decide) ?_
    refine wp_iret rfl dX8_told_26 ?_
    have q := k M Fr.rf
    rw [show toldA E A o 6 = -2 from (if_neg (by decide)).trans (if_pos (by omega))] at q
    exact q
set_option maxRecDepth 20000 in
set_option maxHeartbeats 4000000 in
theorem sp_tolm_7 {l : Launch} {g : Gw} {d n : Nat} {M : Mm} {Q : Option Wd → Mm → Prop} (hn : 90 ≤ n) {A : Ls} {E : Ev} (hI : MJ M A E) (hd : 66 ≤ d) (o : Int) (k : ∀ M', Fr VMs M M' → Q (some (0, toldA E A o 7)) M') : Wp l g d 0 0 n m_X8_told 0 [] [(2, 69), (0, o), (0, 7)] M Q := by
  obtain ⟨hR, hA, hW, hr, hX⟩ := id hI
  have w2 := hW.1
  have w5 := hW.2.1
  have w3 := hW.2.2.1
  have w32 := hW.2.2.2.1
  refine wp_iload_n dX8_told_0 rfl rfl ?_
  refine wp_i2l dX8_told_1 ?_
  refine wp_lconst (v := 0) dX8_told_2 (by decide) (by decide) ?_
  refine wp_ldc2 (x := 14) dX8_told_3 kl_RX8_126 (by decide) (wr_l (by omega)) ?_
  refine wp_callS0 (d' := d - 1) cs_RX8_91 [(1, 7), (1, 0), (1, 14)] [] rfl rfl (Nat.le_of_ble_eq_true rfl) dX8_told_6 rfl (Nat.le_of_ble_eq_true rfl) (by omega) (loc1 := [(1, 7), (9, 0), (1, 0), (9, 0), (1, 14), (9, 0)]) rfl ?_
  refine sp_in 7 0 14 (fun _ => ?_) (fun h => absurd (by decide) h)
  refine wp_if_eq (tgt := 24) dX8_told_9 (by decide) (fun h => absurd h (by decide)) (fun _ => ?_)
  refine wp_iload_n dX8_told_12 rfl rfl ?_
  refine wp_if_le (tgt := 27) dX8_told_13 (by decide) (fun h => absurd h (by decide)) (fun _ => ?_)
  refine wp_aload_n dX8_told_16 rfl rfl ?_
  refine wp_iload_n dX8_told_17 rfl rfl ?_
  refine wp_callV0 (d' := d - 1) cv_RX8_97 69 rfl [(0, o)] [] rfl rfl (Or.inl ⟨_, _, rfl, by decide, rfl, by omega, by omega⟩) (by omega) (Nat.le_of_ble_eq_true rfl) dX8_told_18 rfl (Nat.le_of_ble_eq_true rfl) (by omega) (loc1 := [(2, 69), (0, o)]) rfl ?_
  refine sp_isOne hn hI (by omega) o (fun o18 => ?_) (fun o18 => ?_)
  · refine wp_if_ne (tgt := 27) dX8_told_21 (by decide) (fun _ => ?_) (fun h => absurd h (by decide))
    refine wp_iload_n dX8_told_27 rfl rfl ?_
    refine wp_bipush dX8_told_28 (by decide) (by decide) ?_
    refine wp_icmp_ge (tgt := 71) dX8_told_30 (by decide) (fun _ => ?_) (fun h => absurd h (by decide))
    refine wp_iload_n dX8_told_71 rfl rfl ?_
    refine wp_bipush dX8_told_72 (by decide) (by decide) ?_
    refine wp_icmp_le (tgt := 114) dX8_told_74 (by decide) (fun _ => ?_) (fun h => absurd h (by decide))
    refine wp_iload_n dX8_told_114 rfl rfl ?_
    refine wp_bipush dX8_told_115 (by decide) (by decide) ?_
    refine wp_icmp_ne (tgt := 128) dX8_told_117 (by decide) (fun _ => ?_) (fun h => absurd h (by decide))
    refine wp_iload_n dX8_told_128 rfl rfl ?_
    refine wp_bipush dX8_told_129 (by decide) (by decide) ?_
    refine wp_icmp_ne (tgt := 142) dX8_told_131 (by decide) (fun h => absurd h (by decide)) (fun _ => ?_)
    refine wp_aload_n dX8_told_134 rfl rfl ?_
    refine wp_iload_n dX8_told_135 rfl rfl ?_
    refine wp_callV0 (d' := d - 1) cv_RX8_135 69 rfl [(0, o)] [] rfl rfl (Or.inl ⟨_, _, rfl, by decide, rfl, by omega, by omega⟩) (by omega) (Nat.le_of_ble_eq_true rfl) dX8_told_136 rfl (Nat.le_of_ble_eq_true rfl) (by omega) (loc1 := [(2, 69), (0, o), (9, 0), (9, 0)]) rfl ?_
    refine sp_lsm hn hI (by omega) o o18 (fun M1 F1 => ?_)
    refine wp_goto (tgt := 161) dX8_told_139 (by decide) ?_
    refine wp_iret rfl dX8_told_161 ?_
    have q := k M1 F1
    rw [show toldA E A o 7 = (lastsA E A o) from (if_neg (by decide)).trans ((if_neg (by omega)).trans rfl)] at q
    exact q
  · refine wp_if_ne (tgt := 27) dX8_told_21 (by decide) (fun h => absurd h (by decide)) (fun _ => ?_)
    refine wp_bipush dX8_told_24 (by decide) (by decide) ?_
    refine wp_iret rfl dX8_told_26 ?_
    have q := k M Fr.rf
    rw [show toldA E A o 7 = -2 from (if_neg (by decide)).trans (if_pos (by omega))] at q
    exact q
set_option maxRecDepth 20000 in
set_option maxHeartbeats 4000000 in
theorem sp_tolm_8 {l : Launch} {g : Gw} {d n : Nat} {M : Mm} {Q : Option Wd → Mm → Prop} (hn : 90 ≤ n) {A : Ls} {E : Ev} (hI : MJ M A E) (hd : 66 ≤ d) (o : Int) (k : ∀ M', Fr VMs M M' → Q (some (0, toldA E A o 8)) M') : Wp l g d 0 0 n m_X8_told 0 [] [(2, 69), (0, o), (0, 8)] M Q := by
  obtain ⟨hR, hA, hW, hr, hX⟩ := id hI
  have w2 := hW.1
  have w5 := hW.2.1
  have w3 := hW.2.2.1
  have w32 := hW.2.2.2.1
  refine wp_iload_n dX8_told_0 rfl rfl ?_
  refine wp_i2l dX8_told_1 ?_
  refine wp_lconst (v := 0) dX8_told_2 (by decide) (by decide) ?_
  refine wp_ldc2 (x := 14) dX8_told_3 kl_RX8_126 (by decide) (wr_l (by omega)) ?_
  refine wp_callS0 (d' := d - 1) cs_RX8_91 [(1, 8), (1, 0), (1, 14)] [] rfl rfl (Nat.le_of_ble_eq_true rfl) dX8_told_6 rfl (Nat.le_of_ble_eq_true rfl) (by omega) (loc1 := [(1, 8), (9, 0), (1, 0), (9, 0), (1, 14), (9, 0)]) rfl ?_
  refine sp_in 8 0 14 (fun _ => ?_) (fun h => absurd (by decide) h)
  refine wp_if_eq (tgt := 24) dX8_told_9 (by decide) (fun h => absurd h (by decide)) (fun _ => ?_)
  refine wp_iload_n dX8_told_12 rfl rfl ?_
  refine wp_if_le (tgt := 27) dX8_told_13 (by decide) (fun h => absurd h (by decide)) (fun _ => ?_)
  refine wp_aload_n dX8_told_16 rfl rfl ?_
  refine wp_iload_n dX8_told_17 rfl rfl ?_
  refine wp_callV0 (d' := d - 1) cv_RX8_97 69 rfl [(0, o)] [] rfl rfl (Or.inl ⟨_, _, rfl, by decide, rfl, by omega, by omega⟩) (by omega) (Nat.le_of_ble_eq_true rfl) dX8_told_18 rfl (Nat.le_of_ble_eq_true rfl) (by omega) (loc1 := [(2, 69), (0, o)]) rfl ?_
  refine sp_isOne hn hI (by omega) o (fun o18 => ?_) (fun o18 => ?_)
  · refine wp_if_ne (tgt := 27) dX8_told_21 (by decide) (fun _ => ?_) (fun h => absurd h (by decide))
    refine wp_iload_n dX8_told_27 rfl rfl ?_
    refine wp_bipush dX8_told_28 (by decide) (by decide) ?_
    refine wp_icmp_ge (tgt := 71) dX8_told_30 (by decide) (fun _ => ?_) (fun h => absurd h (by decide))
    refine wp_iload_n dX8_told_71 rfl rfl ?_
    refine wp_bipush dX8_told_72 (by decide) (by decide) ?_
    refine wp_icmp_le (tgt := 114) dX8_told_74 (by decide) (fun _ => ?_) (fun h => absurd h (by decide))
    refine wp_iload_n dX8_told_114 rfl rfl ?_
    refine wp_bipush dX8_told_115 (by decide) (by decide) ?_
    refine wp_icmp_ne (tgt := 128) dX8_told_117 (by decide) (fun _ => ?_) (fun h => absurd h (by decide))
    refine wp_iload_n dX8_told_128 rfl rfl ?_
    refine wp_bipush dX8_told_129 (by decide) (by decide) ?_
    refine wp_icmp_ne (tgt := 142) dX8_told_131 (by decide) (fun _ => ?_) (fun h => absurd h (by decide))
    refine wp_iload_n dX8_told_142 rfl rfl ?_
    refine wp_bipush dX8_told_143 (by decide) (by decide) ?_
    refine wp_icmp_ne (tgt := 156) dX8_told_145 (by decide) (fun h => absurd h (by decide)) (fun _ => ?_)
    refine wp_aload_n dX8_told_148 rfl rfl ?_
    refine wp_iload_n dX8_told_149 rfl rfl ?_
    refine wp_callV0 (d' := d - 1) cv_RX8_138 69 rfl [(0, o)] [] rfl rfl (Or.inl ⟨_, _, rfl, by decide, rfl, by omega, by omega⟩) (by omega) (Nat.le_of_ble_eq_true rfl) dX8_told_150 rfl (Nat.le_of_ble_eq_true rfl) (by omega) (loc1 := [(2, 69), (0, o), (9, 0), (9, 0)]) rfl ?_
    refine sp_irm hn hI (by omega) o o18 (fun M1 F1 => ?_)
    refine wp_goto (tgt := 161) dX8_told_153 (by decide) ?_
    refine wp_iret rfl dX8_told_161 ?_
    have q := k M1 F1
    rw [show toldA E A o 8 = (irksA E A o) from (if_neg (by decide)).trans ((if_neg (by omega)).trans rfl)] at q
    exact q
  · refine wp_if_ne (tgt := 27) dX8_told_21 (by decide) (fun h => absurd h (by decide)) (fun _ => ?_)
    refine wp_bipush dX8_told_24 (by decide) (by decide) ?_
    refine wp_iret rfl dX8_told_26 ?_
    have q := k M Fr.rf
    rw [show toldA E A o 8 = -2 from (if_neg (by decide)).trans (if_pos (by omega))] at q
    exact q
set_option maxRecDepth 20000 in
set_option maxHeartbeats 4000000 in
theorem sp_tolm_9 {l : Launch} {g : Gw} {d n : Nat} {M : Mm} {Q : Option Wd → Mm → Prop} (hn : 90 ≤ n) {A : Ls} {E : Ev} (hI : MJ M A E) (hd : 66 ≤ d) (o : Int) (k : ∀ M', Fr VMs M M' → Q (some (0, toldA E A o 9)) M') : Wp l g d 0 0 n m_X8_told 0 [] [(2, 69), (0, o), (0, 9)] M Q := by
  obtain ⟨hR, hA, hW, hr, hX⟩ := id hI
  have w2 := hW.1
  have w5 := hW.2.1
  have w3 := hW.2.2.1
  have w32 := hW.2.2.2.1
  refine wp_iload_n dX8_told_0 rfl rfl ?_
  refine wp_i2l dX8_told_1 ?_
  refine wp_lconst (v := 0) dX8_told_2 (by decide) (by decide) ?_
  refine wp_ldc2 (x := 14) dX8_told_3 kl_RX8_126 (by decide) (wr_l (by omega)) ?_
  refine wp_callS0 (d' := d - 1) cs_RX8_91 [(1, 9), (1, 0), (1, 14)] [] rfl rfl (Nat.le_of_ble_eq_true rfl) dX8_told_6 rfl (Nat.le_of_ble_eq_true rfl) (by omega) (loc1 := [(1, 9), (9, 0), (1, 0), (9, 0), (1, 14), (9, 0)]) rfl ?_
  refine sp_in 9 0 14 (fun _ => ?_) (fun h => absurd (by decide) h)
  refine wp_if_eq (tgt := 24) dX8_told_9 (by decide) (fun h => absurd h (by decide)) (fun _ => ?_)
  refine wp_iload_n dX8_told_12 rfl rfl ?_
  refine wp_if_le (tgt := 27) dX8_told_13 (by decide) (fun h => absurd h (by decide)) (fun _ => ?_)
  refine wp_aload_n dX8_told_16 rfl rfl ?_
  refine wp_iload_n dX8_told_17 rfl rfl ?_
  refine wp_callV0 (d' := d - 1) cv_RX8_97 69 rfl [(0, o)] [] rfl rfl (Or.inl ⟨_, _, rfl, by decide, rfl, by omega, by omega⟩) (by omega) (Nat.le_of_ble_eq_true rfl) dX8_told_18 rfl (Nat.le_of_ble_eq_true rfl) (by omega) (loc1 := [(2, 69), (0, o)]) rfl ?_
  refine sp_isOne hn hI (by omega) o (fun o18 => ?_) (fun o18 => ?_)
  · refine wp_if_ne (tgt := 27) dX8_told_21 (by decide) (fun _ => ?_) (fun h => absurd h (by decide))
    refine wp_iload_n dX8_told_27 rfl rfl ?_
    refine wp_bipush dX8_told_28 (by decide) (by decide) ?_
    refine wp_icmp_ge (tgt := 71) dX8_told_30 (by decide) (fun _ => ?_) (fun h => absurd h (by decide))
    refine wp_iload_n dX8_told_71 rfl rfl ?_
    refine wp_bipush dX8_told_72 (by decide) (by decide) ?_
    refine wp_icmp_le (tgt := 114) dX8_told_74 (by decide) (fun _ => ?_) (fun h => absurd h (by decide))
    refine wp_iload_n dX8_told_114 rfl rfl ?_
    refine wp_bipush dX8_told_115 (by decide) (by decide) ?_
    refine wp_icmp_ne (tgt := 128) dX8_told_117 (by decide) (fun _ => ?_) (fun h => absurd h (by decide))
    refine wp_iload_n dX8_told_128 rfl rfl ?_
    refine wp_bipush dX8_told_129 (by decide) (by decide) ?_
    refine wp_icmp_ne (tgt := 142) dX8_told_131 (by decide) (fun _ => ?_) (fun h => absurd h (by decide))
    refine wp_iload_n dX8_told_142 rfl rfl ?_
    refine wp_bipush dX8_told_143 (by decide) (by decide) ?_
    refine wp_icmp_ne (tgt := 156) dX8_told_145 (by decide) (fun _ => ?_) (fun h => absurd h (by decide))
    refine wp_aload_n dX8_told_156 rfl rfl ?_
    refine wp_iload_n dX8_told_157 rfl rfl ?_
    refine wp_callV0 (d' := d - 1) cv_RX8_141 69 rfl [(0, o)] [] rfl rfl (Or.inl ⟨_, _, rfl, by decide, rfl, by omega, by omega⟩) (by omega) (Nat.le_of_ble_eq_true rfl) dX8_told_158 rfl (Nat.le_of_ble_eq_true rfl) (by omega) (loc1 := [(2, 69), (0, o), (9, 0), (9, 0)]) rfl ?_
    refine sp_lkbm hn (by omega) hI o ?_
    refine wp_iret rfl dX8_told_161 ?_
    have q := k M Fr.rf
    rw [show toldA E A o 9 = (lkr (A.2 2) o (A.1 2).toNat) from (if_neg (by decide)).trans ((if_neg (by omega)).trans rfl)] at q
    exact q
  · refine wp_if_ne (tgt := 27) dX8_told_21 (by decide) (fun h => absurd h (by decide)) (fun _ => ?_)
    refine wp_bipush dX8_told_24 (by decide) (by decide) ?_
    refine wp_iret rfl dX8_told_26 ?_
    have q := k M Fr.rf
    rw [show toldA E A o 9 = -2 from (if_neg (by decide)).trans (if_pos (by omega))] at q
    exact q
set_option maxRecDepth 20000 in
set_option maxHeartbeats 4000000 in
theorem sp_tolm_10 {l : Launch} {g : Gw} {d n : Nat} {M : Mm} {Q : Option Wd → Mm → Prop} (hn : 90 ≤ n) {A : Ls} {E : Ev} (hI : MJ M A E) (hd : 66 ≤ d) (o : Int) (k : ∀ M', Fr VMs M M' → Q (some (0, toldA E A o 10)) M') : Wp l g d 0 0 n m_X8_told 0 [] [(2, 69), (0, o), (0, 10)] M Q := by
  obtain ⟨hR, hA, hW, hr, hX⟩ := id hI
  have w2 := hW.1
  have w5 := hW.2.1
  have w3 := hW.2.2.1
  have w32 := hW.2.2.2.1
  refine wp_iload_n dX8_told_0 rfl rfl ?_
  refine wp_i2l dX8_told_1 ?_
  refine wp_lconst (v := 0) dX8_told_2 (by decide) (by decide) ?_
  refine wp_ldc2 (x := 14) dX8_told_3 kl_RX8_126 (by decide) (wr_l (by omega)) ?_
  refine wp_callS0 (d' := d - 1) cs_RX8_91 [(1, 10), (1, 0), (1, 14)] [] rfl rfl (Nat.le_of_ble_eq_true rfl) dX8_told_6 rfl (Nat.le_of_ble_eq_true rfl) (by omega) (loc1 := [(1, 10), (9, 0), (1, 0), (9, 0), (1, 14), (9, 0)]) rfl ?_
  refine sp_in 10 0 14 (fun _ => ?_) (fun h => absurd (by decide) h)
  refine wp_if_eq (tgt := 24) dX8_told_9 (by decide) (fun h => absurd h (by decide)) (fun _ => ?_)
  refine wp_iload_n dX8_told_12 rfl rfl ?_
  refine wp_if_le (tgt := 27) dX8_told_13 (by decide) (fun h => absurd h (by decide)) (fun _ => ?_)
  refine wp_aload_n dX8_told_16 rfl rfl ?_
  refine wp_iload_n dX8_told_17 rfl rfl ?_
  refine wp_callV0 (d' := d - 1) cv_RX8_97 69 rfl [(0, o)] [] rfl rfl (Or.inl ⟨_, _, rfl, by decide, rfl, by omega, by omega⟩) (by omega) (Nat.le_of_ble_eq_true rfl) dX8_told_18 rfl (Nat.le_of_ble_eq_true rfl) (by omega) (loc1 := [(2, 69), (0, o)]) rfl ?_
  refine sp_isOne hn hI (by omega) o (fun o18 => ?_) (fun o18 => ?_)
  · refine wp_if_ne (tgt := 27) dX8_told_21 (by decide) (fun _ => ?_) (fun h => absurd h (by decide))
    refine wp_iload_n dX8_told_27 rfl rfl ?_
    refine wp_bipush dX8_told_28 (by decide) (by decide) ?_
    refine wp_icmp_ge (tgt := 71) dX8_told_30 (by decide) (fun _ => ?_) (fun h => absurd h (by decide))
    refine wp_iload_n dX8_told_71 rfl rfl ?_
    refine wp_bipush dX8_told_72 (by decide) (by decide) ?_
    refine wp_icmp_le (tgt := 114) dX8_told_74 (by decide) (fun h => absurd h (by decide)) (fun _ => ?_)
    refine wp_aload_n dX8_told_77 rfl rfl ?_
    refine wp_iload_n dX8_told_78 rfl rfl ?_
    refine wp_bipush dX8_told_79 (by decide) (by decide) ?_
    refine wp_isub dX8_told_81 (by omega) ?_
    refine wp_callV0 (d' := d - 1) cv_RX8_97 69 rfl [(0, 0)] [] rfl rfl (Or.inl ⟨_, _, rfl, by decide, rfl, by omega, by omega⟩) (by omega) (Nat.le_of_ble_eq_true rfl) dX8_told_82 rfl (Nat.le_of_ble_eq_true rfl) (by omega) (loc1 := [(2, 69), (0, 0)]) rfl ?_
    refine sp_isOne hn hI (by omega) 0 (fun o82 => ?_) (fun o82 => ?_)
    · refine wp_if_eq (tgt := 108) dX8_told_85 (by decide) (fun h => absurd h (by decide)) (fun _ => ?_)
      refine wp_iload_n dX8_told_88 rfl rfl ?_
      refine wp_bipush dX8_told_89 (by decide) (by decide) ?_
      refine wp_isub dX8_told_91 (by omega) ?_
      refine wp_iload_n dX8_told_92 rfl rfl ?_
      refine wp_icmp_eq (tgt := 108) dX8_told_93 (by decide) (fun h93 => ?_) (fun h93 => ?_)
      · refine wp_iconst dX8_told_108 (by decide) ?_
        refine wp_goto (tgt := 113) dX8_told_109 (by decide) ?_
        refine wp_iret rfl dX8_told_113 ?_
        have q := k M Fr.rf
        have q2 : toldA E A o 10 = (if mindsA E A o 0 = true then 1 else 0) := (if_neg (by decide)).trans ((if_neg (by omega)).trans rfl)
        rw [q2, if_pos (show mindsA E A o 0 = true from if_pos (by omega))] at q
        exact q
      · refine wp_aload_n dX8_told_96 rfl rfl ?_
        refine wp_iload_n dX8_told_97 rfl rfl ?_
        refine wp_iload_n dX8_told_98 rfl rfl ?_
        refine wp_bipush dX8_told_99 (by decide) (by decide) ?_
        refine wp_isub dX8_told_101 (by omega) ?_
        refine wp_callV0 (d' := d - 1) cv_RX8_128 69 rfl [(0, o), (0, 0)] [] rfl rfl (Or.inl ⟨_, _, rfl, by decide, rfl, by omega, by omega⟩) (by omega) (Nat.le_of_ble_eq_true rfl) dX8_told_102 rfl (Nat.le_of_ble_eq_true rfl) (by omega) (loc1 := [(2, 69), (0, o), (0, 0), (9, 0), (9, 0), (9, 0)]) rfl ?_
        refine sp_mdm hn hI (by omega) o 0 o18 o82 (by omega) (fun m1 M1 F1 => ?_) (fun m1 M1 F1 => ?_)
        · refine wp_if_eq (tgt := 112) dX8_told_105 (by decide) (fun h => absurd h (by decide)) (fun _ => ?_)
          refine wp_iconst dX8_told_108 (by decide) ?_
          refine wp_goto (tgt := 113) dX8_told_109 (by decide) ?_
          refine wp_iret rfl dX8_told_113 ?_
          have q := k M1 F1
          have q2 : toldA E A o 10 = (if mindsA E A o 0 = true then 1 else 0) := (if_neg (by decide)).trans ((if_neg (by omega)).trans rfl)
          rw [q2, if_pos m1] at q
          exact q
        · refine wp_if_eq (tgt := 112) dX8_told_105 (by decide) (fun _ => ?_) (fun h => absurd h (by decide))
          refine wp_iconst dX8_told_112 (by decide) ?_
          refine wp_iret rfl dX8_told_113 ?_
          have q := k M1 F1
          have q2 : toldA E A o 10 = (if mindsA E A o 0 = true then 1 else 0) := (if_neg (by decide)).trans ((if_neg (by omega)).trans rfl)
          rw [q2, if_neg (by rw [m1]; decide)] at q
          exact q
    · refine wp_if_eq (tgt := 108) dX8_told_85 (by decide) (fun _ => ?_) (fun h => absurd h (by decide))
      refine wp_iconst dX8_told_108 (by decide) ?_
      refine wp_goto (tgt := 113) dX8_told_109 (by decide) ?_
      refine wp_iret rfl dX8_told_113 ?_
      have q := k M Fr.rf
      have q2 : toldA E A o 10 = (if mindsA E A o 0 = true then 1 else 0) := (if_neg (by decide)).trans ((if_neg (by omega)).trans rfl)
      rw [q2, if_pos (show mindsA E A o 0 = true from if_pos (by omega))] at q
      exact q
  · refine wp_if_ne (tgt := 27) dX8_told_21 (by decide) (fun h => absurd h (by decide)) (fun _ => ?_)
    refine wp_bipush dX8_told_24 (by decide) (by decide) ?_
    refine wp_iret rfl dX8_told_26 ?_
    have q := k M Fr.rf
    rw [show toldA E A o 10 = -2 from (if_neg (by decide)).trans (if_pos (by omega))] at q
    exact q
set_option maxRecDepth 20000 in
set_option maxHeartbeats 4000000 in
theorem sp_tolm_11 {l : Launch} {g : Gw} {d n : Nat} {M : Mm} {Q : Option Wd → Mm → Prop} (hn : 90 ≤ n) {A : Ls} {E : Ev} (hI : MJ M A E) (hd : 66 ≤ d) (o : Int) (k : ∀ M', Fr VMs M M' → Q (some (0, toldA E A o 11)) M') : Wp l g d 0 0 n m_X8_told 0 [] [(2, 69), (0, o), (0, 11)] M Q := by
  obtain ⟨hR, hA, hW, hr, hX⟩ := id hI
  have w2 := hW.1
  have w5 := hW.2.1
  have w3 := hW.2.2.1
  have w32 := hW.2.2.2.1
  refine wp_iload_n dX8_told_0 rfl rfl ?_
  refine wp_i2l dX8_told_1 ?_
  refine wp_lconst (v := 0) dX8_told_2 (by decide) (by decide) ?_
  refine wp_ldc2 (x := 14) dX8_told_3 kl_RX8_126 (by decide) (wr_l (by omega)) ?_
  refine wp_callS0 (d' := d - 1) cs_RX8_91 [(1, 11), (1, 0), (1, 14)] [] rfl rfl (Nat.le_of_ble_eq_true rfl) dX8_told_6 rfl (Nat.le_of_ble_eq_true rfl) (by omega) (loc1 := [(1, 11), (9, 0), (1, 0), (9, 0), (1, 14), (9, 0)]) rfl ?_
  refine sp_in 11 0 14 (fun _ => ?_) (fun h => absurd (by decide) h)
  refine wp_if_eq (tgt := 24) dX8_told_9 (by decide) (fun h => absurd h (by decide)) (fun _ => ?_)
  refine wp_iload_n dX8_told_12 rfl rfl ?_
  refine wp_if_le (tgt := 27) dX8_told_13 (by decide) (fun h => absurd h (by decide)) (fun _ => ?_)
  refine wp_aload_n dX8_told_16 rfl rfl ?_
  refine wp_iload_n dX8_told_17 rfl rfl ?_
  refine wp_callV0 (d' := d - 1) cv_RX8_97 69 rfl [(0, o)] [] rfl rfl (Or.inl ⟨_, _, rfl, by decide, rfl, by omega, by omega⟩) (by omega) (Nat.le_of_ble_eq_true rfl) dX8_told_18 rfl (Nat.le_of_ble_eq_true rfl) (by omega) (loc1 := [(2, 69), (0, o)]) rfl ?_
  refine sp_isOne hn hI (by omega) o (fun o18 => ?_) (fun o18 => ?_)
  · refine wp_if_ne (tgt := 27) dX8_told_21 (by decide) (fun _ => ?_) (fun h => absurd h (by decide))
    refine wp_iload_n dX8_told_27 rfl rfl ?_
    refine wp_bipush dX8_told_28 (by decide) (by decide) ?_
    refine wp_icmp_ge (tgt := 71) dX8_told_30 (by decide) (fun _ => ?_) (fun h => absurd h (by decide))
    refine wp_iload_n dX8_told_71 rfl rfl ?_
    refine wp_bipush dX8_told_72 (by decide) (by decide) ?_
    refine wp_icmp_le (tgt := 114) dX8_told_74 (by decide) (fun h => absurd h (by decide)) (fun _ => ?_)
    refine wp_aload_n dX8_told_77 rfl rfl ?_
    refine wp_iload_n dX8_told_78 rfl rfl ?_
    refine wp_bipush dX8_told_79 (by decide) (by decide) ?_
    refine wp_isub dX8_told_81 (by omega) ?_
    refine wp_callV0 (d' := d - 1) cv_RX8_97 69 rfl [(0, 1)] [] rfl rfl (Or.inl ⟨_, _, rfl, by decide, rfl, by omega, by omega⟩) (by omega) (Nat.le_of_ble_eq_true rfl) dX8_told_82 rfl (Nat.le_of_ble_eq_true rfl) (by omega) (loc1 := [(2, 69), (0, 1)]) rfl ?_
    refine sp_isOne hn hI (by omega) 1 (fun o82 => ?_) (fun o82 => ?_)
    · refine wp_if_eq (tgt := 108) dX8_told_85 (by decide) (fun h => absurd h (by decide)) (fun _ => ?_)
      refine wp_iload_n dX8_told_88 rfl rfl ?_
      refine wp_bipush dX8_told_89 (by decide) (by decide) ?_
      refine wp_isub dX8_told_91 (by omega) ?_
      refine wp_iload_n dX8_told_92 rfl rfl ?_
      refine wp_icmp_eq (tgt := 108) dX8_told_93 (by decide) (fun h93 => ?_) (fun h93 => ?_)
      · refine wp_iconst dX8_told_108 (by decide) ?_
        refine wp_goto (tgt := 113) dX8_told_109 (by decide) ?_
        refine wp_iret rfl dX8_told_113 ?_
        have q := k M Fr.rf
        have q2 : toldA E A o 11 = (if mindsA E A o 1 = true then 1 else 0) := (if_neg (by decide)).trans ((if_neg (by omega)).trans rfl)
        rw [q2, if_pos (show mindsA E A o 1 = true from if_pos (by omega))] at q
        exact q
      · refine wp_aload_n dX8_told_96 rfl rfl ?_
        refine wp_iload_n dX8_told_97 rfl rfl ?_
        refine wp_iload_n dX8_told_98 rfl rfl ?_
        refine wp_bipush dX8_told_99 (by decide) (by decide) ?_
        refine wp_isub dX8_told_101 (by omega) ?_
        refine wp_callV0 (d' := d - 1) cv_RX8_128 69 rfl [(0, o), (0, 1)] [] rfl rfl (Or.inl ⟨_, _, rfl, by decide, rfl, by omega, by omega⟩) (by omega) (Nat.le_of_ble_eq_true rfl) dX8_told_102 rfl (Nat.le_of_ble_eq_true rfl) (by omega) (loc1 := [(2, 69), (0, o), (0, 1), (9, 0), (9, 0), (9, 0)]) rfl ?_
        refine sp_mdm hn hI (by omega) o 1 o18 o82 (by omega) (fun m1 M1 F1 => ?_) (fun m1 M1 F1 => ?_)
        · refine wp_if_eq (tgt := 112) dX8_told_105 (by decide) (fun h => absurd h (by decide)) (fun _ => ?_)
          refine wp_iconst dX8_told_108 (by decide) ?_
          refine wp_goto (tgt := 113) dX8_told_109 (by decide) ?_
          refine wp_iret rfl dX8_told_113 ?_
          have q := k M1 F1
          have q2 : toldA E A o 11 = (if mindsA E A o 1 = true then 1 else 0) := (if_neg (by decide)).trans ((if_neg (by omega)).trans rfl)
          rw [q2, if_pos m1] at q
          exact q
        · refine wp_if_eq (tgt := 112) dX8_told_105 (by decide) (fun _ => ?_) (fun h => absurd h (by decide))
          refine wp_iconst dX8_told_112 (by decide) ?_
          refine wp_iret rfl dX8_told_113 ?_
          have q := k M1 F1
          have q2 : toldA E A o 11 = (if mindsA E A o 1 = true then 1 else 0) := (if_neg (by decide)).trans ((if_neg (by omega)).trans rfl)
          rw [q2, if_neg (by rw [m1]; decide)] at q
          exact q
    · refine wp_if_eq (tgt := 108) dX8_told_85 (by decide) (fun _ => ?_) (fun h => absurd h (by decide))
      refine wp_iconst dX8_told_108 (by decide) ?_
      refine wp_goto (tgt := 113) dX8_told_109 (by decide) ?_
      refine wp_iret rfl dX8_told_113 ?_
      have q := k M Fr.rf
      have q2 : toldA E A o 11 = (if mindsA E A o 1 = true then 1 else 0) := (if_neg (by decide)).trans ((if_neg (by omega)).trans rfl)
      rw [q2, if_pos (show mindsA E A o 1 = true from if_pos (by omega))] at q
      exact q
  · refine wp_if_ne (tgt := 27) dX8_told_21 (by decide) (fun h => absurd h (by decide)) (fun _ => ?_)
    refine wp_bipush dX8_told_24 (by decide) (by decide) ?_
    refine wp_iret rfl dX8_told_26 ?_
    have q := k M Fr.rf
    rw [show toldA E A o 11 = -2 from (if_neg (by decide)).trans (if_pos (by omega))] at q
    exact q
set_option maxRecDepth 20000 in
set_option maxHeartbeats 4000000 in
theorem sp_tolm_12 {l : Launch} {g : Gw} {d n : Nat} {M : Mm} {Q : Option Wd → Mm → Prop} (hn : 90 ≤ n) {A : Ls} {E : Ev} (hI : MJ M A E) (hd : 66 ≤ d) (o : Int) (k : ∀ M', Fr VMs M M' → Q (some (0, toldA E A o 12)) M') : Wp l g d 0 0 n m_X8_told 0 [] [(2, 69), (0, o), (0, 12)] M Q := by
  obtain ⟨hR, hA, hW, hr, hX⟩ := id hI
  have w2 := hW.1
  have w5 := hW.2.1
  have w3 := hW.2.2.1
  have w32 := hW.2.2.2.1
  refine wp_iload_n dX8_told_0 rfl rfl ?_
  refine wp_i2l dX8_told_1 ?_
  refine wp_lconst (v := 0) dX8_told_2 (by decide) (by decide) ?_
  refine wp_ldc2 (x := 14) dX8_told_3 kl_RX8_126 (by decide) (wr_l (by omega)) ?_
  refine wp_callS0 (d' := d - 1) cs_RX8_91 [(1, 12), (1, 0), (1, 14)] [] rfl rfl (Nat.le_of_ble_eq_true rfl) dX8_told_6 rfl (Nat.le_of_ble_eq_true rfl) (by omega) (loc1 := [(1, 12), (9, 0), (1, 0), (9, 0), (1, 14), (9, 0)]) rfl ?_
  refine sp_in 12 0 14 (fun _ => ?_) (fun h => absurd (by decide) h)
  refine wp_if_eq (tgt := 24) dX8_told_9 (by decide) (fun h => absurd h (by decide)) (fun _ => ?_)
  refine wp_iload_n dX8_told_12 rfl rfl ?_
  refine wp_if_le (tgt := 27) dX8_told_13 (by decide) (fun h => absurd h (by decide)) (fun _ => ?_)
  refine wp_aload_n dX8_told_16 rfl rfl ?_
  refine wp_iload_n dX8_told_17 rfl rfl ?_
  refine wp_callV0 (d' := d - 1) cv_RX8_97 69 rfl [(0, o)] [] rfl rfl (Or.inl ⟨_, _, rfl, by decide, rfl, by omega, by omega⟩) (by omega) (Nat.le_of_ble_eq_true rfl) dX8_told_18 rfl (Nat.le_of_ble_eq_true rfl) (by omega) (loc1 := [(2, 69), (0, o)]) rfl ?_
  refine sp_isOne hn hI (by omega) o (fun o18 => ?_) (fun o18 => ?_)
  · refine wp_if_ne (tgt := 27) dX8_told_21 (by decide) (fun _ => ?_) (fun h => absurd h (by decide))
    refine wp_iload_n dX8_told_27 rfl rfl ?_
    refine wp_bipush dX8_told_28 (by decide) (by decide) ?_
    refine wp_icmp_ge (tgt := 71) dX8_told_30 (by decide) (fun _ => ?_) (fun h => absurd h (by decide))
    refine wp_iload_n dX8_told_71 rfl rfl ?_
    refine wp_bipush dX8_told_72 (by decide) (by decide) ?_
    refine wp_icmp_le (tgt := 114) dX8_told_74 (by decide) (fun h => absurd h (by decide)) (fun _ => ?_)
    refine wp_aload_n dX8_told_77 rfl rfl ?_
    refine wp_iload_n dX8_told_78 rfl rfl ?_
    refine wp_bipush dX8_told_79 (by decide) (by decide) ?_
    refine wp_isub dX8_told_81 (by omega) ?_
    refine wp_callV0 (d' := d - 1) cv_RX8_97 69 rfl [(0, 2)] [] rfl rfl (Or.inl ⟨_, _, rfl, by decide, rfl, by omega, by omega⟩) (by omega) (Nat.le_of_ble_eq_true rfl) dX8_told_82 rfl (Nat.le_of_ble_eq_true rfl) (by omega) (loc1 := [(2, 69), (0, 2)]) rfl ?_
    refine sp_isOne hn hI (by omega) 2 (fun o82 => ?_) (fun o82 => ?_)
    · refine wp_if_eq (tgt := 108) dX8_told_85 (by decide) (fun h => absurd h (by decide)) (fun _ => ?_)
      refine wp_iload_n dX8_told_88 rfl rfl ?_
      refine wp_bipush dX8_told_89 (by decide) (by decide) ?_
      refine wp_isub dX8_told_91 (by omega) ?_
      refine wp_iload_n dX8_told_92 rfl rfl ?_
      refine wp_icmp_eq (tgt := 108) dX8_told_93 (by decide) (fun h93 => ?_) (fun h93 => ?_)
      · refine wp_iconst dX8_told_108 (by decide) ?_
        refine wp_goto (tgt := 113) dX8_told_109 (by decide) ?_
        refine wp_iret rfl dX8_told_113 ?_
        have q := k M Fr.rf
        have q2 : toldA E A o 12 = (if mindsA E A o 2 = true then 1 else 0) := (if_neg (by decide)).trans ((if_neg (by omega)).trans rfl)
        rw [q2, if_pos (show mindsA E A o 2 = true from if_pos (by omega))] at q
        exact q
      · refine wp_aload_n dX8_told_96 rfl rfl ?_
        refine wp_iload_n dX8_told_97 rfl rfl ?_
        refine wp_iload_n dX8_told_98 rfl rfl ?_
        refine wp_bipush dX8_told_99 (by decide) (by decide) ?_
        refine wp_isub dX8_told_101 (by omega) ?_
        refine wp_callV0 (d' := d - 1) cv_RX8_128 69 rfl [(0, o), (0, 2)] [] rfl rfl (Or.inl ⟨_, _, rfl, by decide, rfl, by omega, by omega⟩) (by omega) (Nat.le_of_ble_eq_true rfl) dX8_told_102 rfl (Nat.le_of_ble_eq_true rfl) (by omega) (loc1 := [(2, 69), (0, o), (0, 2), (9, 0), (9, 0), (9, 0)]) rfl ?_
        refine sp_mdm hn hI (by omega) o 2 o18 o82 (by omega) (fun m1 M1 F1 => ?_) (fun m1 M1 F1 => ?_)
        · refine wp_if_eq (tgt := 112) dX8_told_105 (by decide) (fun h => absurd h (by decide)) (fun _ => ?_)
          refine wp_iconst dX8_told_108 (by decide) ?_
          refine wp_goto (tgt := 113) dX8_told_109 (by decide) ?_
          refine wp_iret rfl dX8_told_113 ?_
          have q := k M1 F1
          have q2 : toldA E A o 12 = (if mindsA E A o 2 = true then 1 else 0) := (if_neg (by decide)).trans ((if_neg (by omega)).trans rfl)
          rw [q2, if_pos m1] at q
          exact q
        · refine wp_if_eq (tgt := 112) dX8_told_105 (by decide) (fun _ => ?_) (fun h => absurd h (by decide))
          refine wp_iconst dX8_told_112 (by decide) ?_
          refine wp_iret rfl dX8_told_113 ?_
          have q := k M1 F1
          have q2 : toldA E A o 12 = (if mindsA E A o 2 = true then 1 else 0) := (if_neg (by decide)).trans ((if_neg (by omega)).trans rfl)
          rw [q2, if_neg (by rw [m1]; decide)] at q
          exact q
    · refine wp_if_eq (tgt := 108) dX8_told_85 (by decide) (fun _ => ?_) (fun h => absurd h (by decide))
      refine wp_iconst dX8_told_108 (by decide) ?_
      refine wp_goto (tgt := 113) dX8_told_109 (by decide) ?_
      refine wp_iret rfl dX8_told_113 ?_
      have q := k M Fr.rf
      have q2 : toldA E A o 12 = (if mindsA E A o 2 = true then 1 else 0) := (if_neg (by decide)).trans ((if_neg (by omega)).trans rfl)
      rw [q2, if_pos (show mindsA E A o 2 = true from if_pos (by omega))] at q
      exact q
  · refine wp_if_ne (tgt := 27) dX8_told_21 (by decide) (fun h => absurd h (by decide)) (fun _ => ?_)
    refine wp_bipush dX8_told_24 (by decide) (by decide) ?_
    refine wp_iret rfl dX8_told_26 ?_
    have q := k M Fr.rf
    rw [show toldA E A o 12 = -2 from (if_neg (by decide)).trans (if_pos (by omega))] at q
    exact q
set_option maxRecDepth 20000 in
set_option maxHeartbeats 4000000 in
theorem sp_tolm_13 {l : Launch} {g : Gw} {d n : Nat} {M : Mm} {Q : Option Wd → Mm → Prop} (hn : 90 ≤ n) {A : Ls} {E : Ev} (hI : MJ M A E) (hd : 66 ≤ d) (o : Int) (k : ∀ M', Fr VMs M M' → Q (some (0, toldA E A o 13)) M') : Wp l g d 0 0 n m_X8_told 0 [] [(2, 69), (0, o), (0, 13)] M Q := by
  obtain ⟨hR, hA, hW, hr, hX⟩ := id hI
  have w2 := hW.1
  have w5 := hW.2.1
  have w3 := hW.2.2.1
  have w32 := hW.2.2.2.1
  refine wp_iload_n dX8_told_0 rfl rfl ?_
  refine wp_i2l dX8_told_1 ?_
  refine wp_lconst (v := 0) dX8_told_2 (by decide) (by decide) ?_
  refine wp_ldc2 (x := 14) dX8_told_3 kl_RX8_126 (by decide) (wr_l (by omega)) ?_
  refine wp_callS0 (d' := d - 1) cs_RX8_91 [(1, 13), (1, 0), (1, 14)] [] rfl rfl (Nat.le_of_ble_eq_true rfl) dX8_told_6 rfl (Nat.le_of_ble_eq_true rfl) (by omega) (loc1 := [(1, 13), (9, 0), (1, 0), (9, 0), (1, 14), (9, 0)]) rfl ?_
  refine sp_in 13 0 14 (fun _ => ?_) (fun h => absurd (by decide) h)
  refine wp_if_eq (tgt := 24) dX8_told_9 (by decide) (fun h => absurd h (by decide)) (fun _ => ?_)
  refine wp_iload_n dX8_told_12 rfl rfl ?_
  refine wp_if_le (tgt := 27) dX8_told_13 (by decide) (fun h => absurd h (by decide)) (fun _ => ?_)
  refine wp_aload_n dX8_told_16 rfl rfl ?_
  refine wp_iload_n dX8_told_17 rfl rfl ?_
  refine wp_callV0 (d' := d - 1) cv_RX8_97 69 rfl [(0, o)] [] rfl rfl (Or.inl ⟨_, _, rfl, by decide, rfl, by omega, by omega⟩) (by omega) (Nat.le_of_ble_eq_true rfl) dX8_told_18 rfl (Nat.le_of_ble_eq_true rfl) (by omega) (loc1 := [(2, 69), (0, o)]) rfl ?_
  refine sp_isOne hn hI (by omega) o (fun o18 => ?_) (fun o18 => ?_)
  · refine wp_if_ne (tgt := 27) dX8_told_21 (by decide) (fun _ => ?_) (fun h => absurd h (by decide))
    refine wp_iload_n dX8_told_27 rfl rfl ?_
    refine wp_bipush dX8_told_28 (by decide) (by decide) ?_
    refine wp_icmp_ge (tgt := 71) dX8_told_30 (by decide) (fun _ => ?_) (fun h => absurd h (by decide))
    refine wp_iload_n dX8_told_71 rfl rfl ?_
    refine wp_bipush dX8_told_72 (by decide) (by decide) ?_
    refine wp_icmp_le (tgt := 114) dX8_told_74 (by decide) (fun h => absurd h (by decide)) (fun _ => ?_)
    refine wp_aload_n dX8_told_77 rfl rfl ?_
    refine wp_iload_n dX8_told_78 rfl rfl ?_
    refine wp_bipush dX8_told_79 (by decide) (by decide) ?_
    refine wp_isub dX8_told_81 (by omega) ?_
    refine wp_callV0 (d' := d - 1) cv_RX8_97 69 rfl [(0, 3)] [] rfl rfl (Or.inl ⟨_, _, rfl, by decide, rfl, by omega, by omega⟩) (by omega) (Nat.le_of_ble_eq_true rfl) dX8_told_82 rfl (Nat.le_of_ble_eq_true rfl) (by omega) (loc1 := [(2, 69), (0, 3)]) rfl ?_
    refine sp_isOne hn hI (by omega) 3 (fun o82 => ?_) (fun o82 => ?_)
    · refine wp_if_eq (tgt := 108) dX8_told_85 (by decide) (fun h => absurd h (by decide)) (fun _ => ?_)
      refine wp_iload_n dX8_told_88 rfl rfl ?_
      refine wp_bipush dX8_told_89 (by decide) (by decide) ?_
      refine wp_isub dX8_told_91 (by omega) ?_
      refine wp_iload_n dX8_told_92 rfl rfl ?_
      refine wp_icmp_eq (tgt := 108) dX8_told_93 (by decide) (fun h93 => ?_) (fun h93 => ?_)
      · refine wp_iconst dX8_told_108 (by decide) ?_
        refine wp_goto (tgt := 113) dX8_told_109 (by decide) ?_
        refine wp_iret rfl dX8_told_113 ?_
        have q := k M Fr.rf
        have q2 : toldA E A o 13 = (if mindsA E A o 3 = true then 1 else 0) := (if_neg (by decide)).trans ((if_neg (by omega)).trans rfl)
        rw [q2, if_pos (show mindsA E A o 3 = true from if_pos (by omega))] at q
        exact q
      · refine wp_aload_n dX8_told_96 rfl rfl ?_
        refine wp_iload_n dX8_told_97 rfl rfl ?_
        refine wp_iload_n dX8_told_98 rfl rfl ?_
        refine wp_bipush dX8_told_99 (by decide) (by decide) ?_
        refine wp_isub dX8_told_101 (by omega) ?_
        refine wp_callV0 (d' := d - 1) cv_RX8_128 69 rfl [(0, o), (0, 3)] [] rfl rfl (Or.inl ⟨_, _, rfl, by decide, rfl, by omega, by omega⟩) (by omega) (Nat.le_of_ble_eq_true rfl) dX8_told_102 rfl (Nat.le_of_ble_eq_true rfl) (by omega) (loc1 := [(2, 69), (0, o), (0, 3), (9, 0), (9, 0), (9, 0)]) rfl ?_
        refine sp_mdm hn hI (by omega) o 3 o18 o82 (by omega) (fun m1 M1 F1 => ?_) (fun m1 M1 F1 => ?_)
        · refine wp_if_eq (tgt := 112) dX8_told_105 (by decide) (fun h => absurd h (by decide)) (fun _ => ?_)
          refine wp_iconst dX8_told_108 (by decide) ?_
          refine wp_goto (tgt := 113) dX8_told_109 (by decide) ?_
          refine wp_iret rfl dX8_told_113 ?_
          have q := k M1 F1
          have q2 : toldA E A o 13 = (if mindsA E A o 3 = true then 1 else 0) := (if_neg (by decide)).trans ((if_neg (by omega)).trans rfl)
          rw [q2, if_pos m1] at q
          exact q
        · refine wp_if_eq (tgt := 112) dX8_told_105 (by decide) (fun _ => ?_) (fun h => absurd h (by decide))
          refine wp_iconst dX8_told_112 (by decide) ?_
          refine wp_iret rfl dX8_told_113 ?_
          have q := k M1 F1
          have q2 : toldA E A o 13 = (if mindsA E A o 3 = true then 1 else 0) := (if_neg (by decide)).trans ((if_neg (by omega)).trans rfl)
          rw [q2, if_neg (by rw [m1]; decide)] at q
          exact q
    · refine wp_if_eq (tgt := 108) dX8_told_85 (by decide) (fun _ => ?_) (fun h => absurd h (by decide))
      refine wp_iconst dX8_told_108 (by decide) ?_
      refine wp_goto (tgt := 113) dX8_told_109 (by decide) ?_
      refine wp_iret rfl dX8_told_113 ?_
      have q := k M Fr.rf
      have q2 : toldA E A o 13 = (if mindsA E A o 3 = true then 1 else 0) := (if_neg (by decide)).trans ((if_neg (by omega)).trans rfl)
      rw [q2, if_pos (show mindsA E A o 3 = true from if_pos (by omega))] at q
      exact q
  · refine wp_if_ne (tgt := 27) dX8_told_21 (by decide) (fun h => absurd h (by decide)) (fun _ => ?_)
    refine wp_bipush dX8_told_24 (by decide) (by decide) ?_
    refine wp_iret rfl dX8_told_26 ?_
    have q := k M Fr.rf
    rw [show toldA E A o 13 = -2 from (if_neg (by decide)).trans (if_pos (by omega))] at q
    exact q
set_option maxRecDepth 20000 in
set_option maxHeartbeats 4000000 in
theorem sp_tolm_14 {l : Launch} {g : Gw} {d n : Nat} {M : Mm} {Q : Option Wd → Mm → Prop} (hn : 90 ≤ n) {A : Ls} {E : Ev} (hI : MJ M A E) (hd : 66 ≤ d) (o : Int) (k : ∀ M', Fr VMs M M' → Q (some (0, toldA E A o 14)) M') : Wp l g d 0 0 n m_X8_told 0 [] [(2, 69), (0, o), (0, 14)] M Q := by
  obtain ⟨hR, hA, hW, hr, hX⟩ := id hI
  have w2 := hW.1
  have w5 := hW.2.1
  have w3 := hW.2.2.1
  have w32 := hW.2.2.2.1
  refine wp_iload_n dX8_told_0 rfl rfl ?_
  refine wp_i2l dX8_told_1 ?_
  refine wp_lconst (v := 0) dX8_told_2 (by decide) (by decide) ?_
  refine wp_ldc2 (x := 14) dX8_told_3 kl_RX8_126 (by decide) (wr_l (by omega)) ?_
  refine wp_callS0 (d' := d - 1) cs_RX8_91 [(1, 14), (1, 0), (1, 14)] [] rfl rfl (Nat.le_of_ble_eq_true rfl) dX8_told_6 rfl (Nat.le_of_ble_eq_true rfl) (by omega) (loc1 := [(1, 14), (9, 0), (1, 0), (9, 0), (1, 14), (9, 0)]) rfl ?_
  refine sp_in 14 0 14 (fun _ => ?_) (fun h => absurd (by decide) h)
  refine wp_if_eq (tgt := 24) dX8_told_9 (by decide) (fun h => absurd h (by decide)) (fun _ => ?_)
  refine wp_iload_n dX8_told_12 rfl rfl ?_
  refine wp_if_le (tgt := 27) dX8_told_13 (by decide) (fun h => absurd h (by decide)) (fun _ => ?_)
  refine wp_aload_n dX8_told_16 rfl rfl ?_
  refine wp_iload_n dX8_told_17 rfl rfl ?_
  refine wp_callV0 (d' := d - 1) cv_RX8_97 69 rfl [(0, o)] [] rfl rfl (Or.inl ⟨_, _, rfl, by decide, rfl, by omega, by omega⟩) (by omega) (Nat.le_of_ble_eq_true rfl) dX8_told_18 rfl (Nat.le_of_ble_eq_true rfl) (by omega) (loc1 := [(2, 69), (0, o)]) rfl ?_
  refine sp_isOne hn hI (by omega) o (fun o18 => ?_) (fun o18 => ?_)
  · refine wp_if_ne (tgt := 27) dX8_told_21 (by decide) (fun _ => ?_) (fun h => absurd h (by decide))
    refine wp_iload_n dX8_told_27 rfl rfl ?_
    refine wp_bipush dX8_told_28 (by decide) (by decide) ?_
    refine wp_icmp_ge (tgt := 71) dX8_told_30 (by decide) (fun _ => ?_) (fun h => absurd h (by decide))
    refine wp_iload_n dX8_told_71 rfl rfl ?_
    refine wp_bipush dX8_told_72 (by decide) (by decide) ?_
    refine wp_icmp_le (tgt := 114) dX8_told_74 (by decide) (fun h => absurd h (by decide)) (fun _ => ?_)
    refine wp_aload_n dX8_told_77 rfl rfl ?_
    refine wp_iload_n dX8_told_78 rfl rfl ?_
    refine wp_bipush dX8_told_79 (by decide) (by decide) ?_
    refine wp_isub dX8_told_81 (by omega) ?_
    refine wp_callV0 (d' := d - 1) cv_RX8_97 69 rfl [(0, 4)] [] rfl rfl (Or.inl ⟨_, _, rfl, by decide, rfl, by omega, by omega⟩) (by omega) (Nat.le_of_ble_eq_true rfl) dX8_told_82 rfl (Nat.le_of_ble_eq_true rfl) (by omega) (loc1 := [(2, 69), (0, 4)]) rfl ?_
    refine sp_isOne hn hI (by omega) 4 (fun o82 => ?_) (fun o82 => ?_)
    · refine wp_if_eq (tgt := 108) dX8_told_85 (by decide) (fun h => absurd h (by decide)) (fun _ => ?_)
      refine wp_iload_n dX8_told_88 rfl rfl ?_
      refine wp_bipush dX8_told_89 (by decide) (by decide) ?_
      refine wp_isub dX8_told_91 (by omega) ?_
      refine wp_iload_n dX8_told_92 rfl rfl ?_
      refine wp_icmp_eq (tgt := 108) dX8_told_93 (by decide) (fun h93 => ?_) (fun h93 => ?_)
      · refine wp_iconst dX8_told_108 (by decide) ?_
        refine wp_goto (tgt := 113) dX8_told_109 (by decide) ?_
        refine wp_iret rfl dX8_told_113 ?_
        have q := k M Fr.rf
        have q2 : toldA E A o 14 = (if mindsA E A o 4 = true then 1 else 0) := (if_neg (by decide)).trans ((if_neg (by omega)).trans rfl)
        rw [q2, if_pos (show mindsA E A o 4 = true from if_pos (by omega))] at q
        exact q
      · refine wp_aload_n dX8_told_96 rfl rfl ?_
        refine wp_iload_n dX8_told_97 rfl rfl ?_
        refine wp_iload_n dX8_told_98 rfl rfl ?_
        refine wp_bipush dX8_told_99 (by decide) (by decide) ?_
        refine wp_isub dX8_told_101 (by omega) ?_
        refine wp_callV0 (d' := d - 1) cv_RX8_128 69 rfl [(0, o), (0, 4)] [] rfl rfl (Or.inl ⟨_, _, rfl, by decide, rfl, by omega, by omega⟩) (by omega) (Nat.le_of_ble_eq_true rfl) dX8_told_102 rfl (Nat.le_of_ble_eq_true rfl) (by omega) (loc1 := [(2, 69), (0, o), (0, 4), (9, 0), (9, 0), (9, 0)]) rfl ?_
        refine sp_mdm hn hI (by omega) o 4 o18 o82 (by omega) (fun m1 M1 F1 => ?_) (fun m1 M1 F1 => ?_)
        · refine wp_if_eq (tgt := 112) dX8_told_105 (by decide) (fun h => absurd h (by decide)) (fun _ => ?_)
          refine wp_iconst dX8_told_108 (by decide) ?_
          refine wp_goto (tgt := 113) dX8_told_109 (by decide) ?_
          refine wp_iret rfl dX8_told_113 ?_
          have q := k M1 F1
          have q2 : toldA E A o 14 = (if mindsA E A o 4 = true then 1 else 0) := (if_neg (by decide)).trans ((if_neg (by omega)).trans rfl)
          rw [q2, if_pos m1] at q
          exact q
        · refine wp_if_eq (tgt := 112) dX8_told_105 (by decide) (fun _ => ?_) (fun h => absurd h (by decide))
          refine wp_iconst dX8_told_112 (by decide) ?_
          refine wp_iret rfl dX8_told_113 ?_
          have q := k M1 F1
          have q2 : toldA E A o 14 = (if mindsA E A o 4 = true then 1 else 0) := (if_neg (by decide)).trans ((if_neg (by omega)).trans rfl)
          rw [q2, if_neg (by rw [m1]; decide)] at q
          exact q
    · refine wp_if_eq (tgt := 108) dX8_told_85 (by decide) (fun _ => ?_) (fun h => absurd h (by decide))
      refine wp_iconst dX8_told_108 (by decide) ?_
      refine wp_goto (tgt := 113) dX8_told_109 (by decide) ?_
      refine wp_iret rfl dX8_told_113 ?_
      have q := k M Fr.rf
      have q2 : toldA E A o 14 = (if mindsA E A o 4 = true then 1 else 0) := (if_neg (by decide)).trans ((if_neg (by omega)).trans rfl)
      rw [q2, if_pos (show mindsA E A o 4 = true from if_pos (by omega))] at q
      exact q
  · refine wp_if_ne (tgt := 27) dX8_told_21 (by decide) (fun h => absurd h (by decide)) (fun _ => ?_)
    refine wp_bipush dX8_told_24 (by decide) (by decide) ?_
    refine wp_iret rfl dX8_told_26 ?_
    have q := k M Fr.rf
    rw [show toldA E A o 14 = -2 from (if_neg (by decide)).trans (if_pos (by omega))] at q
    exact q
theorem tld_x {E : Ev} {A : Ls} {o w : Int} (h : w < 0 ∨ 14 < w) : toldA E A o w = -2 := by
  unfold toldA
  rw [if_neg (by omega)]
  split
  · rfl
  · rw [if_neg (by omega), if_neg (by omega), if_neg (by omega), if_neg (by omega), if_neg (by omega), if_neg (by omega)]
    repeat rw [if_neg (by omega)]
set_option maxRecDepth 20000 in
set_option maxHeartbeats 4000000 in
theorem cm_told {l : Launch} {g : Gw} {d n : Nat} {M : Mm} {Q : Option Wd → Mm → Prop} (hn : 90 ≤ n) {A : Ls} {E : Ev} (hI : MJ M A E) (hd : 66 ≤ d) (o w : Int) (k : ∀ M', Fr VMs M M' → Q (some (0, toldA E A o w)) M') : Wp l g d 0 0 n m_X8_told 0 [] [(2, 69), (0, o), (0, w)] M Q := by
  obtain ⟨hR, hA, hW, hr, hX⟩ := id hI
  have w2 := hW.1
  have w5 := hW.2.1
  have w3 := hW.2.2.1
  have w32 := hW.2.2.2.1
  by_cases hw : w < 0 ∨ 14 < w
  · refine wp_iload_n dX8_told_0 rfl rfl ?_
    refine wp_i2l dX8_told_1 ?_
    refine wp_lconst (v := 0) dX8_told_2 (by decide) (by decide) ?_
    refine wp_ldc2 (x := 14) dX8_told_3 kl_RX8_126 (by decide) (wr_l (by omega)) ?_
    refine wp_callS0 (d' := d - 1) cs_RX8_91 [(1, w), (1, 0), (1, 14)] [] rfl rfl (Nat.le_of_ble_eq_true rfl) dX8_told_6 rfl (Nat.le_of_ble_eq_true rfl) (by omega) (loc1 := [(1, w), (9, 0), (1, 0), (9, 0), (1, 14), (9, 0)]) rfl ?_
    refine sp_in w 0 14 (fun h => absurd h (by omega)) (fun _ => ?_)
    refine wp_if_eq (tgt := 24) dX8_told_9 (by decide) (fun _ => ?_) (fun h => absurd h (by decide))
    refine wp_bipush dX8_told_24 (by decide) (by decide) ?_
    refine wp_iret rfl dX8_told_26 ?_
    have q := k M Fr.rf
    rw [tld_x (by omega)] at q
    exact q
  · rcases (show w = 0 ∨ w = 1 ∨ w = 2 ∨ w = 3 ∨ w = 4 ∨ w = 5 ∨ w = 6 ∨ w = 7 ∨ w = 8 ∨ w = 9 ∨ w = 10 ∨ w = 11 ∨ w = 12 ∨ w = 13 ∨ w = 14 by omega) with rfl | rfl | rfl | rfl | rfl | rfl | rfl | rfl | rfl | rfl | rfl | rfl | rfl | rfl | rfl
    · exact sp_tolm_0 hn hI hd o k
    · exact sp_tolm_1 hn hI hd o k
    · exact sp_tolm_2 hn hI hd o k
    · exact sp_tolm_3 hn hI hd o k
    · exact sp_tolm_4 hn hI hd o k
    · exact sp_tolm_5 hn hI hd o k
    · exact sp_tolm_6 hn hI hd o k
    · exact sp_tolm_7 hn hI hd o k
    · exact sp_tolm_8 hn hI hd o k
    · exact sp_tolm_9 hn hI hd o k
    · exact sp_tolm_10 hn hI hd o k
    · exact sp_tolm_11 hn hI hd o k
    · exact sp_tolm_12 hn hI hd o k
    · exact sp_tolm_13 hn hI hd o k
    · exact sp_tolm_14 hn hI hd o k
