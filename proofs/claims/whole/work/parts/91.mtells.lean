/-! ===== the model: cell, copy, people, film, tells ===== -/
theorem Rms.put {M B : Mm} (h : Rms M B) {s i : Nat} {v : Int} (hs : s < 4) (hi : (i : Int) < 40) (hV : Ws B) : Rms (mu M 90 (40 * s + i) v) (mu B s (2 + i) v) := by
  intro t ht
  obtain ⟨a, b⟩ := h t ht
  have e0 : mu B s (2 + i) v t 0 = B t 0 := by
    by_cases c : t = s
    · subst c; exact mu_nj _ _ _ (by omega)
    · exact mu_ne _ _ _ c _
  have e1 : mu B s (2 + i) v t 1 = B t 1 := by
    by_cases c : t = s
    · subst c; exact mu_nj _ _ _ (by omega)
    · exact mu_ne _ _ _ c _
  rw [e0, e1]
  refine ⟨a, fun c => ?_⟩
  obtain ⟨b1, b2, b3⟩ := b c
  have hv := hV.r ht
  refine ⟨b1, b2, fun j hj => ?_⟩
  by_cases q : t = s ∧ j = i
  · obtain ⟨rfl, rfl⟩ := q
    rw [mu_self, mu_self]
  · rw [mu_nj _ _ _ (show 40 * t + j ≠ 40 * s + i by omega), b3 j hj]
    by_cases c2 : t = s
    · subst c2
      exact (mu_nj _ _ _ (by omega)).symm
    · exact (mu_ne _ _ _ c2 _).symm
set_option maxRecDepth 20000 in
set_option maxHeartbeats 4000000 in
theorem cm_cell {l : Launch} {g : Gw} {d n : Nat} {M : Mm} {Q : Option Wd → Mm → Prop} (hn : 90 ≤ n) (hd : 70 ≤ d) (hR : SR M) {B : Mm} (hB : Rms M B) (hV : Ws B) (x y z : Int) (kB : ¬ (0 ≤ x ∧ x < 4) → Q (some (0, -2)) M) (kN : (0 ≤ x ∧ x < 4) → B x.toNat 0 = -1 → Q (some (0, -11)) M) (kO : (0 ≤ x ∧ x < 4) → B x.toNat 0 ≠ -1 → ¬ (0 ≤ y ∧ y < B x.toNat 1) → Q (some (0, -12)) M) (k : (0 ≤ x ∧ x < 4) → B x.toNat 0 ≠ -1 → (0 ≤ y ∧ y < B x.toNat 1) → ∀ M', Rms M' (putB B x.toNat y.toNat z) → Fr VMh M M' → Q (some (0, 1)) M') : Wp l g d 0 0 n m_X8_cell 0 [] [(2, 69), (0, x), (0, y), (0, z)] M Q := by
  by_cases hx : 0 ≤ x ∧ x < 4
  · obtain ⟨s, rfl⟩ := Int.eq_ofNat_of_zero_le hx.1
    have hs : s < 4 := by omega
    have hv := hV.r hs
    by_cases hT : B s 0 = -1
    · have h87 : M 87 s = 0 := (hB s hs).1.trans (if_pos hT)
      refine wp_iload_n dX8_cell_0 rfl rfl ?_
      refine wp_callS0 (d' := d - 1) cs_RX8_439 [(0, (s : Int))] [] rfl rfl (Nat.le_of_ble_eq_true rfl) dX8_cell_1 rfl (Nat.le_of_ble_eq_true rfl) (by omega) (loc1 := [(0, (s : Int))]) rfl ?_
      refine sp_isSh (by omega) (s : Int) (fun s1 => ?_) (fun s1 => ?_)
      · refine wp_if_ne (tgt := 10) dX8_cell_4 (by decide) (fun _ => ?_) (fun h => absurd h (by decide))
        refine wp_aload_n dX8_cell_10 rfl rfl ?_
        refine wp_get 69 rfl fl_RX8_69 rfl ⟨by omega, by omega⟩ dX8_cell_11 rfl (v := 87) (sr_69_49 (M := M) hR) ?_
        refine wp_iload_n dX8_cell_14 rfl rfl ?_
        refine wp_zald 87 rfl rfl ⟨by omega, by omega⟩ ⟨by omega, by omega⟩ dX8_cell_15 (v := 0) (h87) ?_
        refine wp_if_ne (tgt := 22) dX8_cell_16 (by decide) (fun h => absurd h (by decide)) (fun _ => ?_)
        refine wp_bipush dX8_cell_19 (by decide) (by decide) ?_
        refine wp_iret rfl dX8_cell_21 ?_
        exact kN (by omega) hT
      · refine wp_if_ne (tgt := 10) dX8_cell_4 (by decide) (fun h => absurd h (by decide)) (fun _ => ?_)
        refine wp_bipush dX8_cell_7 (by decide) (by decide) ?_
        refine wp_iret rfl dX8_cell_9 ?_
        exact kB (by omega)
    · have h87 : M 87 s = 1 := (hB s hs).1.trans (if_neg hT)
      have h8 := (hB s hs).2 hT
      refine wp_iload_n dX8_cell_0 rfl rfl ?_
      refine wp_callS0 (d' := d - 1) cs_RX8_439 [(0, (s : Int))] [] rfl rfl (Nat.le_of_ble_eq_true rfl) dX8_cell_1 rfl (Nat.le_of_ble_eq_true rfl) (by omega) (loc1 := [(0, (s : Int))]) rfl ?_
      refine sp_isSh (by omega) (s : Int) (fun s1 => ?_) (fun s1 => ?_)
      · refine wp_if_ne (tgt := 10) dX8_cell_4 (by decide) (fun _ => ?_) (fun h => absurd h (by decide))
        refine wp_aload_n dX8_cell_10 rfl rfl ?_
        refine wp_get 69 rfl fl_RX8_69 rfl ⟨by omega, by omega⟩ dX8_cell_11 rfl (v := 87) (sr_69_49 (M := M) hR) ?_
        refine wp_iload_n dX8_cell_14 rfl rfl ?_
        refine wp_zald 87 rfl rfl ⟨by omega, by omega⟩ ⟨by omega, by omega⟩ dX8_cell_15 (v := 1) (h87) ?_
        refine wp_if_ne (tgt := 22) dX8_cell_16 (by decide) (fun _ => ?_) (fun h => absurd h (by decide))
        refine wp_iload_n dX8_cell_22 rfl rfl ?_
        refine wp_i2l dX8_cell_23 ?_
        refine wp_lconst (v := 0) dX8_cell_24 (by decide) (by decide) ?_
        refine wp_aload_n dX8_cell_25 rfl rfl ?_
        refine wp_get 69 rfl fl_RX8_75 rfl ⟨by omega, by omega⟩ dX8_cell_26 rfl (v := 89) (sr_69_51 (M := M) hR) ?_
        refine wp_iload_n dX8_cell_29 rfl rfl ?_
        refine wp_iald 89 rfl rfl ⟨by omega, by omega⟩ ⟨by omega, by omega⟩ dX8_cell_30 (v := (B s 1)) (h8.2.1) ?_
        refine wp_iconst dX8_cell_31 (by decide) ?_
        refine wp_isub dX8_cell_32 (by omega) ?_
        refine wp_i2l dX8_cell_33 ?_
        refine wp_callS0 (d' := d - 1) cs_RX8_91 [(1, y), (1, 0), (1, ((B s 1) - 1))] [] rfl rfl (Nat.le_of_ble_eq_true rfl) dX8_cell_34 rfl (Nat.le_of_ble_eq_true rfl) (by omega) (loc1 := [(1, y), (9, 0), (1, 0), (9, 0), (1, ((B s 1) - 1)), (9, 0)]) rfl ?_
        refine sp_in y 0 ((B s 1) - 1) (fun i34 => ?_) (fun i34 => ?_)
        · refine wp_if_ne (tgt := 43) dX8_cell_37 (by decide) (fun _ => ?_) (fun h => absurd h (by decide))
          refine wp_aload_n dX8_cell_43 rfl rfl ?_
          refine wp_get 69 rfl fl_RX8_78 rfl ⟨by omega, by omega⟩ dX8_cell_44 rfl (v := 90) (sr_69_52 (M := M) hR) ?_
          refine wp_bipush dX8_cell_47 (by decide) (by decide) ?_
          refine wp_iload_n dX8_cell_49 rfl rfl ?_
          refine wp_imul dX8_cell_50 (by omega) ?_
          refine wp_iload_n dX8_cell_51 rfl rfl ?_
          refine wp_iadd dX8_cell_52 (by omega) ?_
          refine wp_aload_n dX8_cell_53 rfl rfl ?_
          refine wp_get 69 rfl fl_RX8_72 rfl ⟨by omega, by omega⟩ dX8_cell_54 rfl (v := 88) (sr_69_50 (M := M) hR) ?_
          refine wp_iload_n dX8_cell_57 rfl rfl ?_
          refine wp_iald 88 rfl rfl ⟨by omega, by omega⟩ ⟨by omega, by omega⟩ dX8_cell_58 (v := (B s 0)) (h8.1) ?_
          refine wp_if_ne (tgt := 67) dX8_cell_59 (by decide) (fun h59 => ?_) (fun h59 => ?_)
          · refine wp_aload_n dX8_cell_67 rfl rfl ?_
            refine wp_get 69 rfl fl_RX8_72 rfl ⟨by omega, by omega⟩ dX8_cell_68 rfl (v := 88) (sr_69_50 (M := M) hR) ?_
            refine wp_iload_n dX8_cell_71 rfl rfl ?_
            refine wp_iald 88 rfl rfl ⟨by omega, by omega⟩ ⟨by omega, by omega⟩ dX8_cell_72 (v := (B s 0)) (h8.1) ?_
            refine wp_iconst dX8_cell_73 (by decide) ?_
            refine wp_icmp_ne (tgt := 82) dX8_cell_74 (by decide) (fun h74 => ?_) (fun h74 => ?_)
            · refine wp_iload_n dX8_cell_82 rfl rfl ?_
              refine wp_iast 90 rfl rfl ⟨by omega, by omega⟩ ⟨by omega, by omega⟩ dX8_cell_83 (jn := (40 * s + y.toNat)) (by omega) ?_
              refine wp_iconst dX8_cell_84 (by decide) ?_
              refine wp_iret rfl dX8_cell_85 ?_
              have f1 : Fr VMh M (mu M 90 (40 * s + y.toNat) z) := Fr.rf.put (by unfold VMh; omega)
              have ev : cvt (B s 0) z = z := by unfold cvt; repeat (first | rw [if_pos (by omega)] | rw [if_neg (by omega)])
              refine k (by omega) hT (show 0 ≤ y ∧ y < B s 1 by omega) _ ?_ f1
              show Rms _ (mu B s (2 + y.toNat) (cvt (B s 0) z))
              rw [ev]
              exact hB.put hs (by omega) hV
            · refine wp_iload_n dX8_cell_77 rfl rfl ?_
              refine wp_i2s dX8_cell_78 ?_
              refine wp_goto (tgt := 83) dX8_cell_79 (by decide) ?_
              refine wp_iast 90 rfl rfl ⟨by omega, by omega⟩ ⟨by omega, by omega⟩ dX8_cell_83 (jn := (40 * s + y.toNat)) (by omega) ?_
              refine wp_iconst dX8_cell_84 (by decide) ?_
              refine wp_iret rfl dX8_cell_85 ?_
              have f1 : Fr VMh M (mu M 90 (40 * s + y.toNat) (i16 z)) := Fr.rf.put (by unfold VMh; omega)
              have ev : cvt (B s 0) z = (i16 z) := by unfold cvt; repeat (first | rw [if_pos (by omega)] | rw [if_neg (by omega)])
              refine k (by omega) hT (show 0 ≤ y ∧ y < B s 1 by omega) _ ?_ f1
              show Rms _ (mu B s (2 + y.toNat) (cvt (B s 0) z))
              rw [ev]
              exact hB.put hs (by omega) hV
          · refine wp_iload_n dX8_cell_62 rfl rfl ?_
            refine wp_i2b dX8_cell_63 ?_
            refine wp_goto (tgt := 83) dX8_cell_64 (by decide) ?_
            refine wp_iast 90 rfl rfl ⟨by omega, by omega⟩ ⟨by omega, by omega⟩ dX8_cell_83 (jn := (40 * s + y.toNat)) (by omega) ?_
            refine wp_iconst dX8_cell_84 (by decide) ?_
            refine wp_iret rfl dX8_cell_85 ?_
            have f1 : Fr VMh M (mu M 90 (40 * s + y.toNat) (i8 z)) := Fr.rf.put (by unfold VMh; omega)
            have ev : cvt (B s 0) z = (i8 z) := by unfold cvt; repeat (first | rw [if_pos (by omega)] | rw [if_neg (by omega)])
            refine k (by omega) hT (show 0 ≤ y ∧ y < B s 1 by omega) _ ?_ f1
            show Rms _ (mu B s (2 + y.toNat) (cvt (B s 0) z))
            rw [ev]
            exact hB.put hs (by omega) hV
        · refine wp_if_ne (tgt := 43) dX8_cell_37 (by decide) (fun h => absurd h (by decide)) (fun _ => ?_)
          refine wp_bipush dX8_cell_40 (by decide) (by decide) ?_
          refine wp_iret rfl dX8_cell_42 ?_
          exact kO (by omega) hT (fun h => by have h : 0 ≤ y ∧ y < B s 1 := h; omega)
      · refine wp_if_ne (tgt := 10) dX8_cell_4 (by decide) (fun h => absurd h (by decide)) (fun _ => ?_)
        refine wp_bipush dX8_cell_7 (by decide) (by decide) ?_
        refine wp_iret rfl dX8_cell_9 ?_
        exact kB (by omega)
  · refine wp_iload_n dX8_cell_0 rfl rfl ?_
    refine wp_callS0 (d' := d - 1) cs_RX8_439 [(0, x)] [] rfl rfl (Nat.le_of_ble_eq_true rfl) dX8_cell_1 rfl (Nat.le_of_ble_eq_true rfl) (by omega) (loc1 := [(0, x)]) rfl ?_
    refine sp_isSh (by omega) x (fun h => absurd h hx) (fun _ => ?_)
    refine wp_if_ne (tgt := 10) dX8_cell_4 (by decide) (fun h => absurd h (by decide)) (fun _ => ?_)
    refine wp_bipush dX8_cell_7 (by decide) (by decide) ?_
    refine wp_iret rfl dX8_cell_9 ?_
    exact kB (by omega)
set_option maxRecDepth 20000 in
set_option maxHeartbeats 4000000 in
theorem lp_ppm  {l : Launch} {g : Gw} {d n : Nat} (hn : 90 ≤ n) (hd : 72 ≤ d) {E : Ev} {B : Mm} (hV : Ws B) {s : Nat} (hs : s < 4) (hT : B s 0 ≠ -1) {y z v : Int} (hz : -2147483648 ≤ z ∧ z < 2147483648) {N : Nat} (hN : v = (N : Int)) (hN5 : N ≤ 5) : ∀ (m q : Nat) (A : Ls) (c : Int) (M : Mm) (u7 : Wd) (Q : Option Wd → Mm → Prop), q + m = N → 0 ≤ c ∧ c ≤ (q : Int) → MJ M A E → Rms M B → (∀ M', MJ M' (pplA (fun i => B s (2 + i)) (B s 1) z m q A c).1 E → Fr VMl M M' → Q (some (0, (pplA (fun i => B s (2 + i)) (B s 1) z m q A c).2)) M') → Wp l g d 0 0 n m_X8_people 75 [] [(2, 69), (0, (s : Int)), (0, y), (0, z), (0, v), (0, c), (0, (q : Int)), u7] M Q := by
  intro m
  induction m with
  | zero =>
    intro q A c M u7 Q hm hc hI hB k
    obtain ⟨hR, hA, hW, hr, hX⟩ := id hI
    have h8 := (hB s hs).2 hT
    have hv := hV.r hs
    refine wp_iload dX8_people_75 rfl ?_
    refine wp_iload dX8_people_77 rfl ?_
    refine wp_icmp_ge (tgt := 158) dX8_people_79 (by decide) (fun _ => ?_) (fun h => absurd h (by omega))
    refine wp_iload dX8_people_158 rfl ?_
    refine wp_iret rfl dX8_people_160 ?_
    exact k M hI Fr.rf
  | succ m ih =>
    intro q A c M u7 Q hm hc hI hB k
    obtain ⟨hR, hA, hW, hr, hX⟩ := id hI
    have h8 := (hB s hs).2 hT
    have hv := hV.r hs
    refine wp_iload dX8_people_75 rfl ?_
    refine wp_iload dX8_people_77 rfl ?_
    refine wp_icmp_ge (tgt := 158) dX8_people_79 (by decide) (fun h => absurd h (by omega)) (fun _ => ?_)
    refine wp_iload_n dX8_people_82 rfl rfl ?_
    refine wp_if_lt (tgt := 103) dX8_people_83 (by decide) (fun h83 => ?_) (fun h83 => ?_)
    · refine wp_bipush dX8_people_103 (by decide) (by decide) ?_
      refine wp_iret rfl dX8_people_105 ?_
      have e : pplA (fun i => B s (2 + i)) (B s 1) z (m + 1) q A c = (A, -12) := if_neg (by omega)
      rw [e] at k
      exact k M hI Fr.rf
    · refine wp_iload_n dX8_people_86 rfl rfl ?_
      refine wp_aload_n dX8_people_87 rfl rfl ?_
      refine wp_get 69 rfl fl_RX8_75 rfl ⟨by omega, by omega⟩ dX8_people_88 rfl (v := 89) (sr_69_51 (M := M) hR) ?_
      refine wp_iload_n dX8_people_91 rfl rfl ?_
      refine wp_iald 89 rfl rfl ⟨by omega, by omega⟩ ⟨by omega, by omega⟩ dX8_people_92 (v := (B s 1)) (h8.2.1) ?_
      refine wp_iconst dX8_people_93 (by decide) ?_
      refine wp_iload dX8_people_94 rfl ?_
      refine wp_imul dX8_people_96 (by omega) ?_
      refine wp_isub dX8_people_97 (by omega) ?_
      refine wp_iconst dX8_people_98 (by decide) ?_
      refine wp_isub dX8_people_99 (by omega) ?_
      refine wp_icmp_le (tgt := 106) dX8_people_100 (by decide) (fun h100 => ?_) (fun h100 => ?_)
      · refine wp_bipush dX8_people_106 (by decide) (by decide) ?_
        refine wp_iload_n dX8_people_108 rfl rfl ?_
        refine wp_imul dX8_people_109 (by omega) ?_
        refine wp_iload_n dX8_people_110 rfl rfl ?_
        refine wp_iadd dX8_people_111 (by omega) ?_
        refine wp_iconst dX8_people_112 (by decide) ?_
        refine wp_iload dX8_people_113 rfl ?_
        refine wp_imul dX8_people_115 (by omega) ?_
        refine wp_iadd dX8_people_116 (by omega) ?_
        refine wp_istore (loc' := [(2, 69), (0, (s : Int)), (0, y), (0, z), (0, v), (0, c), (0, (q : Int)), (0, (((40 * (s : Int)) + z) + (2 * (q : Int))))]) dX8_people_117 (Nat.le_of_ble_eq_true rfl) rfl ?_
        refine wp_iload dX8_people_119 rfl ?_
        refine wp_aload_n dX8_people_121 rfl rfl ?_
        refine wp_aload_n dX8_people_122 rfl rfl ?_
        refine wp_get 69 rfl fl_RX8_78 rfl ⟨by omega, by omega⟩ dX8_people_123 rfl (v := 90) (sr_69_52 (M := M) hR) ?_
        refine wp_iload dX8_people_126 rfl ?_
        refine wp_iald 90 rfl rfl ⟨by omega, by omega⟩ ⟨by omega, by omega⟩ dX8_people_128 (v := (B s (2 + (z.toNat + 2 * q)))) (by rw [show ((((40 * (s : Int)) + z) + (2 * (q : Int)))).toNat = (40 * s + (z.toNat + 2 * q)) by omega]; exact h8.2.2 (z.toNat + 2 * q) (by omega)) ?_
        refine wp_aload_n dX8_people_129 rfl rfl ?_
        refine wp_get 69 rfl fl_RX8_78 rfl ⟨by omega, by omega⟩ dX8_people_130 rfl (v := 90) (sr_69_52 (M := M) hR) ?_
        refine wp_iload dX8_people_133 rfl ?_
        refine wp_iconst dX8_people_135 (by decide) ?_
        refine wp_iadd dX8_people_136 (by omega) ?_
        refine wp_iald 90 rfl rfl ⟨by omega, by omega⟩ ⟨by omega, by omega⟩ dX8_people_137 (v := (B s (2 + (z.toNat + 2 * q + 1)))) (by rw [show (((((40 * (s : Int)) + z) + (2 * (q : Int))) + 1)).toNat = (40 * s + (z.toNat + 2 * q + 1)) by omega]; exact h8.2.2 (z.toNat + 2 * q + 1) (by omega)) ?_
        refine wp_callV0 (d' := d - 1) cv_RX8_472 69 rfl [(0, (B s (2 + (z.toNat + 2 * q)))), (0, (B s (2 + (z.toNat + 2 * q + 1))))] [(0, c)] rfl rfl (Or.inl ⟨_, _, rfl, by decide, rfl, by omega, by omega⟩) (by omega) (Nat.le_of_ble_eq_true rfl) dX8_people_138 rfl (Nat.le_of_ble_eq_true rfl) (by omega) (loc1 := [(2, 69), (0, (B s (2 + (z.toNat + 2 * q)))), (0, (B s (2 + (z.toNat + 2 * q + 1))))]) rfl ?_
        refine cm_person hn hI (by omega) (B s (2 + (z.toNat + 2 * q))) (B s (2 + (z.toNat + 2 * q + 1))) (fun M1 I1 F1 => ?_)
        refine wp_if_lt (tgt := 148) dX8_people_141 (by decide) (fun h141 => ?_) (fun h141 => ?_)
        · refine wp_iconst dX8_people_148 (by decide) ?_
          refine wp_iadd dX8_people_149 (by omega) ?_
          refine wp_istore (loc' := [(2, 69), (0, (s : Int)), (0, y), (0, z), (0, v), (0, (c + 0)), (0, (q : Int)), (0, (((40 * (s : Int)) + z) + (2 * (q : Int))))]) dX8_people_150 (Nat.le_of_ble_eq_true rfl) rfl ?_
          refine wp_iinc (loc' := [(2, 69), (0, (s : Int)), (0, y), (0, z), (0, v), (0, (c + 0)), (0, ((q : Int) + 1)), (0, (((40 * (s : Int)) + z) + (2 * (q : Int))))]) dX8_people_152 rfl (by omega) rfl ?_
          refine wp_goto (tgt := 75) dX8_people_155 (by decide) ?_
          have e : pplA (fun i => B s (2 + i)) (B s 1) z (m + 1) q A c = pplA (fun i => B s (2 + i)) (B s 1) z m (q + 1) (prsA A (B s (2 + (z.toNat + 2 * q))) (B s (2 + (z.toNat + 2 * q + 1)))).1 (if 0 ≤ (prsA A (B s (2 + (z.toNat + 2 * q))) (B s (2 + (z.toNat + 2 * q + 1)))).2 then c + 1 else c) := if_pos (by omega)
          rw [e, if_neg (by omega)] at k
          rw [show c + 0 = c from Int.add_zero c]
          exact ih (q + 1) (prsA A (B s (2 + (z.toNat + 2 * q))) (B s (2 + (z.toNat + 2 * q + 1)))).1 _ M1 _ Q (by omega) (by omega) I1 (hB.fr F1 VMl.nh) (fun M2 I2 F2 => k M2 I2 (F1.tr F2))
        · refine wp_iconst dX8_people_144 (by decide) ?_
          refine wp_goto (tgt := 149) dX8_people_145 (by decide) ?_
          refine wp_iadd dX8_people_149 (by omega) ?_
          refine wp_istore (loc' := [(2, 69), (0, (s : Int)), (0, y), (0, z), (0, v), (0, (c + 1)), (0, (q : Int)), (0, (((40 * (s : Int)) + z) + (2 * (q : Int))))]) dX8_people_150 (Nat.le_of_ble_eq_true rfl) rfl ?_
          refine wp_iinc (loc' := [(2, 69), (0, (s : Int)), (0, y), (0, z), (0, v), (0, (c + 1)), (0, ((q : Int) + 1)), (0, (((40 * (s : Int)) + z) + (2 * (q : Int))))]) dX8_people_152 rfl (by omega) rfl ?_
          refine wp_goto (tgt := 75) dX8_people_155 (by decide) ?_
          have e : pplA (fun i => B s (2 + i)) (B s 1) z (m + 1) q A c = pplA (fun i => B s (2 + i)) (B s 1) z m (q + 1) (prsA A (B s (2 + (z.toNat + 2 * q))) (B s (2 + (z.toNat + 2 * q + 1)))).1 (if 0 ≤ (prsA A (B s (2 + (z.toNat + 2 * q))) (B s (2 + (z.toNat + 2 * q + 1)))).2 then c + 1 else c) := if_pos (by omega)
          rw [e, if_pos (by omega)] at k
          exact ih (q + 1) (prsA A (B s (2 + (z.toNat + 2 * q))) (B s (2 + (z.toNat + 2 * q + 1)))).1 _ M1 _ Q (by omega) (by omega) I1 (hB.fr F1 VMl.nh) (fun M2 I2 F2 => k M2 I2 (F1.tr F2))
      · refine wp_bipush dX8_people_103 (by decide) (by decide) ?_
        refine wp_iret rfl dX8_people_105 ?_
        have e : pplA (fun i => B s (2 + i)) (B s 1) z (m + 1) q A c = (A, -12) := if_neg (by omega)
        rw [e] at k
        exact k M hI Fr.rf
set_option maxRecDepth 20000 in
set_option maxHeartbeats 4000000 in
theorem cm_people {l : Launch} {g : Gw} {d n : Nat} {M : Mm} {Q : Option Wd → Mm → Prop} (hn : 90 ≤ n) {A : Ls} {E : Ev} (hI : MJ M A E) (hd : 76 ≤ d) {B : Mm} (hB : Rms M B) (hV : Ws B) (x y z v : Int) (hz : -2147483648 ≤ z ∧ z < 2147483648) (kB : ¬ (0 ≤ x ∧ x < 4 ∧ 0 ≤ y ∧ y ≤ 2 ∧ 0 ≤ v ∧ v ≤ 5) → Q (some (0, -2)) M) (kN : (0 ≤ x ∧ x < 4 ∧ 0 ≤ y ∧ y ≤ 2 ∧ 0 ≤ v ∧ v ≤ 5) → B x.toNat 0 = -1 → Q (some (0, -11)) M) (kU : (0 ≤ x ∧ x < 4 ∧ 0 ≤ y ∧ y ≤ 2 ∧ 0 ≤ v ∧ v ≤ 5) → B x.toNat 0 ≠ -1 → B x.toNat 0 ≠ y → Q (some (0, -13)) M) (k : (0 ≤ x ∧ x < 4 ∧ 0 ≤ y ∧ y ≤ 2 ∧ 0 ≤ v ∧ v ≤ 5) → B x.toNat 0 = y → ∀ M', MJ M' (pplA (fun i => B x.toNat (2 + i)) (B x.toNat 1) z v.toNat 0 A 0).1 E → Fr VMl M M' → Q (some (0, (pplA (fun i => B x.toNat (2 + i)) (B x.toNat 1) z v.toNat 0 A 0).2)) M') : Wp l g d 0 0 n m_X8_people 0 [] [(2, 69), (0, x), (0, y), (0, z), (0, v), (9, 0), (9, 0), (9, 0)] M Q := by
  have hR := hI.1
  by_cases hx : 0 ≤ x ∧ x < 4
  · obtain ⟨s, rfl⟩ := Int.eq_ofNat_of_zero_le hx.1
    have hs : s < 4 := by omega
    have hv := hV.r hs
    by_cases hT : B s 0 = -1
    · have h87 : M 87 s = 0 := (hB s hs).1.trans (if_pos hT)
      refine wp_iload_n dX8_people_0 rfl rfl ?_
      refine wp_callS0 (d' := d - 1) cs_RX8_439 [(0, (s : Int))] [] rfl rfl (Nat.le_of_ble_eq_true rfl) dX8_people_1 rfl (Nat.le_of_ble_eq_true rfl) (by omega) (loc1 := [(0, (s : Int))]) rfl ?_
      refine sp_isSh (by omega) (s : Int) (fun s1 => ?_) (fun s1 => ?_)
      · refine wp_if_eq (tgt := 32) dX8_people_4 (by decide) (fun h => absurd h (by decide)) (fun _ => ?_)
        refine wp_iload_n dX8_people_7 rfl rfl ?_
        refine wp_i2l dX8_people_8 ?_
        refine wp_lconst (v := 0) dX8_people_9 (by decide) (by decide) ?_
        refine wp_ldc2 (x := 2) dX8_people_10 kl_RX8_419 (by decide) (wr_l (by omega)) ?_
        refine wp_callS0 (d' := d - 1) cs_RX8_91 [(1, y), (1, 0), (1, 2)] [] rfl rfl (Nat.le_of_ble_eq_true rfl) dX8_people_13 rfl (Nat.le_of_ble_eq_true rfl) (by omega) (loc1 := [(1, y), (9, 0), (1, 0), (9, 0), (1, 2), (9, 0)]) rfl ?_
        refine sp_in y 0 2 (fun i13 => ?_) (fun i13 => ?_)
        · refine wp_if_eq (tgt := 32) dX8_people_16 (by decide) (fun h => absurd h (by decide)) (fun _ => ?_)
          refine wp_iload dX8_people_19 rfl ?_
          refine wp_i2l dX8_people_21 ?_
          refine wp_lconst (v := 0) dX8_people_22 (by decide) (by decide) ?_
          refine wp_ldc2 (x := 5) dX8_people_23 kl_RX8_119 (by decide) (wr_l (by omega)) ?_
          refine wp_callS0 (d' := d - 1) cs_RX8_91 [(1, v), (1, 0), (1, 5)] [] rfl rfl (Nat.le_of_ble_eq_true rfl) dX8_people_26 rfl (Nat.le_of_ble_eq_true rfl) (by omega) (loc1 := [(1, v), (9, 0), (1, 0), (9, 0), (1, 5), (9, 0)]) rfl ?_
          refine sp_in v 0 5 (fun i26 => ?_) (fun i26 => ?_)
          · refine wp_if_ne (tgt := 35) dX8_people_29 (by decide) (fun _ => ?_) (fun h => absurd h (by decide))
            refine wp_aload_n dX8_people_35 rfl rfl ?_
            refine wp_get 69 rfl fl_RX8_69 rfl ⟨by omega, by omega⟩ dX8_people_36 rfl (v := 87) (sr_69_49 (M := M) hR) ?_
            refine wp_iload_n dX8_people_39 rfl rfl ?_
            refine wp_zald 87 rfl rfl ⟨by omega, by omega⟩ ⟨by omega, by omega⟩ dX8_people_40 (v := 0) (h87) ?_
            refine wp_if_eq (tgt := 57) dX8_people_41 (by decide) (fun _ => ?_) (fun h => absurd h (by decide))
            refine wp_aload_n dX8_people_57 rfl rfl ?_
            refine wp_get 69 rfl fl_RX8_69 rfl ⟨by omega, by omega⟩ dX8_people_58 rfl (v := 87) (sr_69_49 (M := M) hR) ?_
            refine wp_iload_n dX8_people_61 rfl rfl ?_
            refine wp_zald 87 rfl rfl ⟨by omega, by omega⟩ ⟨by omega, by omega⟩ dX8_people_62 (v := 0) (h87) ?_
            refine wp_if_ne (tgt := 69) dX8_people_63 (by decide) (fun h => absurd h (by decide)) (fun _ => ?_)
            refine wp_bipush dX8_people_66 (by decide) (by decide) ?_
            refine wp_iret rfl dX8_people_68 ?_
            exact kN (by omega) hT
          · refine wp_if_ne (tgt := 35) dX8_people_29 (by decide) (fun h => absurd h (by decide)) (fun _ => ?_)
            refine wp_bipush dX8_people_32 (by decide) (by decide) ?_
            refine wp_iret rfl dX8_people_34 ?_
            exact kB (by omega)
        · refine wp_if_eq (tgt := 32) dX8_people_16 (by decide) (fun _ => ?_) (fun h => absurd h (by decide))
          refine wp_bipush dX8_people_32 (by decide) (by decide) ?_
          refine wp_iret rfl dX8_people_34 ?_
          exact kB (by omega)
      · refine wp_if_eq (tgt := 32) dX8_people_4 (by decide) (fun _ => ?_) (fun h => absurd h (by decide))
        refine wp_bipush dX8_people_32 (by decide) (by decide) ?_
        refine wp_iret rfl dX8_people_34 ?_
        exact kB (by omega)
    · have h87 : M 87 s = 1 := (hB s hs).1.trans (if_neg hT)
      have h8 := (hB s hs).2 hT
      refine wp_iload_n dX8_people_0 rfl rfl ?_
      refine wp_callS0 (d' := d - 1) cs_RX8_439 [(0, (s : Int))] [] rfl rfl (Nat.le_of_ble_eq_true rfl) dX8_people_1 rfl (Nat.le_of_ble_eq_true rfl) (by omega) (loc1 := [(0, (s : Int))]) rfl ?_
      refine sp_isSh (by omega) (s : Int) (fun s1 => ?_) (fun s1 => ?_)
      · refine wp_if_eq (tgt := 32) dX8_people_4 (by decide) (fun h => absurd h (by decide)) (fun _ => ?_)
        refine wp_iload_n dX8_people_7 rfl rfl ?_
        refine wp_i2l dX8_people_8 ?_
        refine wp_lconst (v := 0) dX8_people_9 (by decide) (by decide) ?_
        refine wp_ldc2 (x := 2) dX8_people_10 kl_RX8_419 (by decide) (wr_l (by omega)) ?_
        refine wp_callS0 (d' := d - 1) cs_RX8_91 [(1, y), (1, 0), (1, 2)] [] rfl rfl (Nat.le_of_ble_eq_true rfl) dX8_people_13 rfl (Nat.le_of_ble_eq_true rfl) (by omega) (loc1 := [(1, y), (9, 0), (1, 0), (9, 0), (1, 2), (9, 0)]) rfl ?_
        refine sp_in y 0 2 (fun i13 => ?_) (fun i13 => ?_)
        · refine wp_if_eq (tgt := 32) dX8_people_16 (by decide) (fun h => absurd h (by decide)) (fun _ => ?_)
          refine wp_iload dX8_people_19 rfl ?_
          refine wp_i2l dX8_people_21 ?_
          refine wp_lconst (v := 0) dX8_people_22 (by decide) (by decide) ?_
          refine wp_ldc2 (x := 5) dX8_people_23 kl_RX8_119 (by decide) (wr_l (by omega)) ?_
          refine wp_callS0 (d' := d - 1) cs_RX8_91 [(1, v), (1, 0), (1, 5)] [] rfl rfl (Nat.le_of_ble_eq_true rfl) dX8_people_26 rfl (Nat.le_of_ble_eq_true rfl) (by omega) (loc1 := [(1, v), (9, 0), (1, 0), (9, 0), (1, 5), (9, 0)]) rfl ?_
          refine sp_in v 0 5 (fun i26 => ?_) (fun i26 => ?_)
          · refine wp_if_ne (tgt := 35) dX8_people_29 (by decide) (fun _ => ?_) (fun h => absurd h (by decide))
            refine wp_aload_n dX8_people_35 rfl rfl ?_
            refine wp_get 69 rfl fl_RX8_69 rfl ⟨by omega, by omega⟩ dX8_people_36 rfl (v := 87) (sr_69_49 (M := M) hR) ?_
            refine wp_iload_n dX8_people_39 rfl rfl ?_
            refine wp_zald 87 rfl rfl ⟨by omega, by omega⟩ ⟨by omega, by omega⟩ dX8_people_40 (v := 1) (h87) ?_
            refine wp_if_eq (tgt := 57) dX8_people_41 (by decide) (fun h => absurd h (by decide)) (fun _ => ?_)
            refine wp_aload_n dX8_people_44 rfl rfl ?_
            refine wp_get 69 rfl fl_RX8_72 rfl ⟨by omega, by omega⟩ dX8_people_45 rfl (v := 88) (sr_69_50 (M := M) hR) ?_
            refine wp_iload_n dX8_people_48 rfl rfl ?_
            refine wp_iald 88 rfl rfl ⟨by omega, by omega⟩ ⟨by omega, by omega⟩ dX8_people_49 (v := (B s 0)) (h8.1) ?_
            refine wp_iload_n dX8_people_50 rfl rfl ?_
            refine wp_icmp_eq (tgt := 57) dX8_people_51 (by decide) (fun h51 => ?_) (fun h51 => ?_)
            · refine wp_aload_n dX8_people_57 rfl rfl ?_
              refine wp_get 69 rfl fl_RX8_69 rfl ⟨by omega, by omega⟩ dX8_people_58 rfl (v := 87) (sr_69_49 (M := M) hR) ?_
              refine wp_iload_n dX8_people_61 rfl rfl ?_
              refine wp_zald 87 rfl rfl ⟨by omega, by omega⟩ ⟨by omega, by omega⟩ dX8_people_62 (v := 1) (h87) ?_
              refine wp_if_ne (tgt := 69) dX8_people_63 (by decide) (fun _ => ?_) (fun h => absurd h (by decide))
              refine wp_iconst dX8_people_69 (by decide) ?_
              refine wp_istore (loc' := [(2, 69), (0, (s : Int)), (0, y), (0, z), (0, v), (0, 0), (9, 0), (9, 0)]) dX8_people_70 (Nat.le_of_ble_eq_true rfl) rfl ?_
              refine wp_iconst dX8_people_72 (by decide) ?_
              refine wp_istore (loc' := [(2, 69), (0, (s : Int)), (0, y), (0, z), (0, v), (0, 0), (0, 0), (9, 0)]) dX8_people_73 (Nat.le_of_ble_eq_true rfl) rfl ?_
              obtain ⟨N, hN⟩ := Int.eq_ofNat_of_zero_le (show 0 ≤ v by omega)
              refine lp_ppm hn (by omega) hV hs hT hz hN (by omega) N 0 A 0 M _ Q (by omega) (by omega) hI hB (fun M2 I2 F2 => ?_)
              have q0 := k (by omega) (by show B s 0 = y; omega) M2
              rw [show v.toNat = N by omega] at q0
              exact q0 I2 F2
            · refine wp_bipush dX8_people_54 (by decide) (by decide) ?_
              refine wp_iret rfl dX8_people_56 ?_
              exact kU (by omega) hT (by show B s 0 ≠ y; omega)
          · refine wp_if_ne (tgt := 35) dX8_people_29 (by decide) (fun h => absurd h (by decide)) (fun _ => ?_)
            refine wp_bipush dX8_people_32 (by decide) (by decide) ?_
            refine wp_iret rfl dX8_people_34 ?_
            exact kB (by omega)
        · refine wp_if_eq (tgt := 32) dX8_people_16 (by decide) (fun _ => ?_) (fun h => absurd h (by decide))
          refine wp_bipush dX8_people_32 (by decide) (by decide) ?_
          refine wp_iret rfl dX8_people_34 ?_
          exact kB (by omega)
      · refine wp_if_eq (tgt := 32) dX8_people_4 (by decide) (fun _ => ?_) (fun h => absurd h (by decide))
        refine wp_bipush dX8_people_32 (by decide) (by decide) ?_
        refine wp_iret rfl dX8_people_34 ?_
        exact kB (by omega)
  · refine wp_iload_n dX8_people_0 rfl rfl ?_
    refine wp_callS0 (d' := d - 1) cs_RX8_439 [(0, x)] [] rfl rfl (Nat.le_of_ble_eq_true rfl) dX8_people_1 rfl (Nat.le_of_ble_eq_true rfl) (by omega) (loc1 := [(0, x)]) rfl ?_
    refine sp_isSh (by omega) x (fun h => absurd h hx) (fun _ => ?_)
    refine wp_if_eq (tgt := 32) dX8_people_4 (by decide) (fun _ => ?_) (fun h => absurd h (by decide))
    refine wp_bipush dX8_people_32 (by decide) (by decide) ?_
    refine wp_iret rfl dX8_people_34 ?_
    exact kB (by omega)
set_option maxRecDepth 20000 in
set_option maxHeartbeats 4000000 in
theorem lp_fom  {l : Launch} {g : Gw} {d n : Nat} (hn : 90 ≤ n) (hd : 70 ≤ d) {E : Ev} {B : Mm} {s : Nat} (hs : s < 4) (hT : B s 0 ≠ -1) {A0 : Ls} {N : Nat} (hN : B s 1 = (N : Int)) (hN40 : N ≤ 40) : ∀ (m q : Nat) (A : Ls) (M : Mm) (Q : Option Wd → Mm → Prop), q + m = N → MJ M A E → SLa A0 A → Rms M B → (∀ M' A' u, MJ M' A' E → SLa A0 A' → Fr VMl M M' → Wp l g d 0 0 n m_X8_firstOther 58 [] [(2, 69), (0, (s : Int)), (0, ftA E (fun i => B s (2 + i)) m q A), u] M' Q) → Wp l g d 0 0 n m_X8_firstOther 8 [] [(2, 69), (0, (s : Int)), (0, (-1)), (0, (q : Int))] M Q := by
  intro m
  induction m with
  | zero =>
    intro q A M Q hm hI hS hB k
    obtain ⟨hR, hA, hW, hr, hX⟩ := id hI
    have h8 := (hB s hs).2 hT
    refine wp_iload_n dX8_firstOther_8 rfl rfl ?_
    refine wp_aload_n dX8_firstOther_9 rfl rfl ?_
    refine wp_get 69 rfl fl_RX8_75 rfl ⟨by omega, by omega⟩ dX8_firstOther_10 rfl (v := 89) (sr_69_51 (M := M) hR) ?_
    refine wp_iload_n dX8_firstOther_13 rfl rfl ?_
    refine wp_iald 89 rfl rfl ⟨by omega, by omega⟩ ⟨by omega, by omega⟩ dX8_firstOther_14 (v := (N : Int)) ((h8.2.1.trans hN)) ?_
    refine wp_icmp_ge (tgt := 58) dX8_firstOther_15 (by decide) (fun _ => ?_) (fun h => absurd h (by omega))
    exact k M A _ hI hS Fr.rf
  | succ m ih =>
    intro q A M Q hm hI hS hB k
    obtain ⟨hR, hA, hW, hr, hX⟩ := id hI
    have h8 := (hB s hs).2 hT
    refine wp_iload_n dX8_firstOther_8 rfl rfl ?_
    refine wp_aload_n dX8_firstOther_9 rfl rfl ?_
    refine wp_get 69 rfl fl_RX8_75 rfl ⟨by omega, by omega⟩ dX8_firstOther_10 rfl (v := 89) (sr_69_51 (M := M) hR) ?_
    refine wp_iload_n dX8_firstOther_13 rfl rfl ?_
    refine wp_iald 89 rfl rfl ⟨by omega, by omega⟩ ⟨by omega, by omega⟩ dX8_firstOther_14 (v := (N : Int)) ((h8.2.1.trans hN)) ?_
    refine wp_icmp_ge (tgt := 58) dX8_firstOther_15 (by decide) (fun h => absurd h (by omega)) (fun _ => ?_)
    refine wp_iload_n dX8_firstOther_18 rfl rfl ?_
    refine wp_iconst dX8_firstOther_19 (by decide) ?_
    refine wp_icmp_ne (tgt := 58) dX8_firstOther_20 (by decide) (fun h => absurd h (by decide)) (fun _ => ?_)
    refine wp_aload_n dX8_firstOther_23 rfl rfl ?_
    refine wp_callV0 (d' := d - 1) cv_RX8_368 69 rfl [] [] rfl rfl (Or.inl ⟨_, _, rfl, by decide, rfl, by omega, by omega⟩) (by omega) (Nat.le_of_ble_eq_true rfl) dX8_firstOther_24 rfl (Nat.le_of_ble_eq_true rfl) (by omega) (loc1 := [(2, 69), (9, 0), (9, 0), (9, 0)]) rfl ?_
    refine sp_tkm hn hI (by omega) (fun M1 I1 F1 => ?_)
    have h81 := ((hB.fr F1 VMl.nh) s hs).2 hT
    have R1 := I1.1
    refine wp_pop dX8_firstOther_27 (Or.inl rfl) ?_
    refine wp_aload_n dX8_firstOther_28 rfl rfl ?_
    refine wp_callV0 (d' := d - 1) cv_RX8_433 69 rfl [] [] rfl rfl (Or.inl ⟨_, _, rfl, by decide, rfl, by omega, by omega⟩) (by omega) (Nat.le_of_ble_eq_true rfl) dX8_firstOther_29 rfl (Nat.le_of_ble_eq_true rfl) (by omega) (loc1 := [(2, 69)]) rfl ?_
    refine sp_fnm hn I1 ?_
    refine wp_aload_n dX8_firstOther_32 rfl rfl ?_
    refine wp_get 69 rfl fl_RX8_78 rfl ⟨by omega, by omega⟩ dX8_firstOther_33 rfl (v := 90) (sr_69_52 (M := M1) R1) ?_
    refine wp_bipush dX8_firstOther_36 (by decide) (by decide) ?_
    refine wp_iload_n dX8_firstOther_38 rfl rfl ?_
    refine wp_imul dX8_firstOther_39 (by omega) ?_
    refine wp_iload_n dX8_firstOther_40 rfl rfl ?_
    refine wp_iadd dX8_firstOther_41 (by omega) ?_
    refine wp_iald 90 rfl rfl ⟨by omega, by omega⟩ ⟨by omega, by omega⟩ dX8_firstOther_42 (v := (B s (2 + q))) (by rw [show (((40 * (s : Int)) + (q : Int))).toNat = (40 * s + q) by omega]; exact h81.2.2 q (by omega)) ?_
    refine wp_icmp_ne (tgt := 50) dX8_firstOther_43 (by decide) (fun h43 => ?_) (fun h43 => ?_)
    · refine wp_iload_n dX8_firstOther_50 rfl rfl ?_
      refine wp_istore_n (loc' := [(2, 69), (0, (s : Int)), (0, (q : Int)), (0, (q : Int))]) dX8_firstOther_51 rfl (Nat.le_of_ble_eq_true rfl) rfl ?_
      refine wp_iinc (loc' := [(2, 69), (0, (s : Int)), (0, (q : Int)), (0, ((q : Int) + 1))]) dX8_firstOther_52 rfl (by omega) rfl ?_
      refine wp_goto (tgt := 8) dX8_firstOther_55 (by decide) ?_
      refine wp_iload_n dX8_firstOther_8 rfl rfl ?_
      refine wp_aload_n dX8_firstOther_9 rfl rfl ?_
      refine wp_get 69 rfl fl_RX8_75 rfl ⟨by omega, by omega⟩ dX8_firstOther_10 rfl (v := 89) (sr_69_51 (M := M1) R1) ?_
      refine wp_iload_n dX8_firstOther_13 rfl rfl ?_
      refine wp_iald 89 rfl rfl ⟨by omega, by omega⟩ ⟨by omega, by omega⟩ dX8_firstOther_14 (v := (N : Int)) ((h81.2.1.trans hN)) ?_
      refine wp_icmp_ge (tgt := 58) dX8_firstOther_15 (by decide) (fun h15 => ?_) (fun h15 => ?_)
      · have e : ftA E (fun i => B s (2 + i)) (m + 1) q A = (q : Int) := if_neg (fun h => h43 h.symm)
        rw [e] at k
        exact k M1 _ _ I1 (hS.tick E) F1
      · refine wp_iload_n dX8_firstOther_18 rfl rfl ?_
        refine wp_iconst dX8_firstOther_19 (by decide) ?_
        refine wp_icmp_ne (tgt := 58) dX8_firstOther_20 (by decide) (fun _ => ?_) (fun h => absurd h (by omega))
        have e : ftA E (fun i => B s (2 + i)) (m + 1) q A = (q : Int) := if_neg (fun h => h43 h.symm)
        rw [e] at k
        exact k M1 _ _ I1 (hS.tick E) F1
    · refine wp_iconst dX8_firstOther_46 (by decide) ?_
      refine wp_goto (tgt := 51) dX8_firstOther_47 (by decide) ?_
      refine wp_istore_n (loc' := [(2, 69), (0, (s : Int)), (0, (-1)), (0, (q : Int))]) dX8_firstOther_51 rfl (Nat.le_of_ble_eq_true rfl) rfl ?_
      refine wp_iinc (loc' := [(2, 69), (0, (s : Int)), (0, (-1)), (0, ((q : Int) + 1))]) dX8_firstOther_52 rfl (by omega) rfl ?_
      refine wp_goto (tgt := 8) dX8_firstOther_55 (by decide) ?_
      have e : ftA E (fun i => B s (2 + i)) (m + 1) q A = ftA E (fun i => B s (2 + i)) m (q + 1) (tickA E A).1 := if_pos h43.symm
      rw [e] at k
      exact ih (q + 1) (tickA E A).1 M1 Q (by omega) I1 (hS.tick E) (hB.fr F1 VMl.nh) (fun M2 A2 u2 I2 S2 F2 => k M2 A2 u2 I2 S2 (F1.tr F2))
set_option maxRecDepth 20000 in
set_option maxHeartbeats 4000000 in
theorem sp_fom {l : Launch} {g : Gw} {d n : Nat} {M : Mm} {Q : Option Wd → Mm → Prop} (hn : 90 ≤ n) {A : Ls} {E : Ev} (hI : MJ M A E) (hd : 71 ≤ d) {B : Mm} (hB : Rms M B) (hV : Ws B) {s : Nat} (hs : s < 4) (hT : B s 0 ≠ -1) (k : ∀ M', MJ M' A E → Fr VMt M M' → Q (some (0, ftA E (fun i => B s (2 + i)) (B s 1).toNat 0 A)) M') : Wp l g d 0 0 n m_X8_firstOther 0 [] [(2, 69), (0, (s : Int)), (9, 0), (9, 0)] M Q := by
  obtain ⟨hR, hA, hW, hr, hX⟩ := id hI
  have hv := hV.r hs
  obtain ⟨N, hN⟩ := Int.eq_ofNat_of_zero_le hv.1
  refine wp_aload_n dX8_firstOther_0 rfl rfl ?_
  refine wp_callV0 (d' := d - 1) cv_RX8_430 69 rfl [] [] rfl rfl (Or.inl ⟨_, _, rfl, by decide, rfl, by omega, by omega⟩) (by omega) (Nat.le_of_ble_eq_true rfl) dX8_firstOther_1 rfl (Nat.le_of_ble_eq_true rfl) (by omega) (loc1 := [(2, 69), (9, 0)]) rfl ?_
  refine sp_asd hn hI (fun M1 I1 S1 F1 => ?_)
  refine wp_iconst dX8_firstOther_4 (by decide) ?_
  refine wp_istore_n (loc' := [(2, 69), (0, (s : Int)), (0, (-1)), (9, 0)]) dX8_firstOther_5 rfl (Nat.le_of_ble_eq_true rfl) rfl ?_
  refine wp_iconst dX8_firstOther_6 (by decide) ?_
  refine wp_istore_n (loc' := [(2, 69), (0, (s : Int)), (0, (-1)), (0, 0)]) dX8_firstOther_7 rfl (Nat.le_of_ble_eq_true rfl) rfl ?_
  refine lp_fom hn (by omega) hs hT hN (by omega) N 0 A M1 Q (by omega) I1 SLa.rf (hB.fr (F1.mono VMw.t) VMt.nh) (fun M2 A2 u I2 L2 F2 => ?_)
  have B2 := S1.fr F2 VMl.nw
  refine wp_aload_n dX8_firstOther_58 rfl rfl ?_
  refine wp_callV0 (d' := d - 1) cv_RX8_436 69 rfl [] [] rfl rfl (Or.inl ⟨_, _, rfl, by decide, rfl, by omega, by omega⟩) (by omega) (Nat.le_of_ble_eq_true rfl) dX8_firstOther_59 rfl (Nat.le_of_ble_eq_true rfl) (by omega) (loc1 := [(2, 69), (9, 0)]) rfl ?_
  refine sp_bck hn I2 L2 hW B2 (fun M3 I3 F3 => ?_)
  refine wp_iload_n dX8_firstOther_62 rfl rfl ?_
  refine wp_iret rfl dX8_firstOther_63 ?_
  have q0 := k M3 I3 ((F1.mono VMw.t).tr ((F2.mono VMl.t).tr (F3.mono VMb.t)))
  rw [show (B s 1).toNat = N by omega] at q0
  exact q0
