set_option maxRecDepth 20000 in
set_option maxHeartbeats 4000000 in
theorem sp_minds_2 {l : Launch} {g : Gw} {d n : Nat} {M : Mm} {Q : Option Wd → Mm → Prop} (hn : 60 ≤ n) (hd : 4 ≤ d) (hR : SR M) (hX : txOK M) {A : Ls} (hA : Rc M 2 A) (hW : Wf A) (hr : 0 ≤ A.1 1 ∧ A.1 1 < M 25 1) (x y : Int) (kt : mindsA (evC M) A x y = true → ∀ M', Fr VX M M' → SR M' → Q (some (0, 1)) M') (kf : mindsA (evC M) A x y = false → ∀ M', Fr VX M M' → SR M' → Q (some (0, 0)) M') : Wp l g d 0 0 n m_X1_minds 0 [] [(2, 51), (2, 2), (0, x), (0, y), (9, 0), (9, 0)] M Q := by
  obtain ⟨a0, a1, a2, a3, ar, al⟩ := id hA
  obtain ⟨w0, w1, w2, w3, w4, w5, w6⟩ := id hW
  have hX1 := hX.1
  have hX2 := hX.2.1
  refine wp_aload_n dX1_minds_0 rfl rfl ?_
  refine wp_iload_n dX1_minds_1 rfl rfl ?_
  refine wp_callV0 (d' := d - 1) cv_RX1_19 2 rfl [(0, x)] [] rfl rfl (Or.inl ⟨_, _, rfl, by decide, rfl, by omega, by omega⟩) (by omega) (Nat.le_of_ble_eq_true rfl) dX1_minds_2 rfl (Nat.le_of_ble_eq_true rfl) (by omega) (loc1 := [(2, 2), (0, x)]) rfl ?_
  refine sp_has_2 hn x (fun h2 => ?_) (fun h2 => ?_)
  · refine wp_if_eq (tgt := 21) dX1_minds_5 (by decide) (fun h => absurd h (by decide)) (fun _ => ?_)
    refine wp_aload_n dX1_minds_8 rfl rfl ?_
    refine wp_iload_n dX1_minds_9 rfl rfl ?_
    refine wp_callV0 (d' := d - 1) cv_RX1_19 2 rfl [(0, y)] [] rfl rfl (Or.inl ⟨_, _, rfl, by decide, rfl, by omega, by omega⟩) (by omega) (Nat.le_of_ble_eq_true rfl) dX1_minds_10 rfl (Nat.le_of_ble_eq_true rfl) (by omega) (loc1 := [(2, 2), (0, y)]) rfl ?_
    refine sp_has_2 hn y (fun h10 => ?_) (fun h10 => ?_)
    · refine wp_if_eq (tgt := 21) dX1_minds_13 (by decide) (fun h => absurd h (by decide)) (fun _ => ?_)
      refine wp_iload_n dX1_minds_16 rfl rfl ?_
      refine wp_iload_n dX1_minds_17 rfl rfl ?_
      refine wp_icmp_ne (tgt := 23) dX1_minds_18 (by decide) (fun h18 => ?_) (fun h18 => ?_)
      · refine wp_aload_n dX1_minds_23 rfl rfl ?_
        refine wp_get 51 rfl fl_RX1_9 rfl ⟨by omega, by omega⟩ dX1_minds_24 rfl (v := 25) (sr_51_0 (M := M) hR) ?_
        refine wp_aload_n dX1_minds_27 rfl rfl ?_
        refine wp_callV0 (d' := d - 1) cv_RX1_25 25 rfl [(2, 2)] [] rfl rfl (Or.inl ⟨_, _, rfl, by decide, rfl, by omega, by omega⟩) (by omega) (Nat.le_of_ble_eq_true rfl) dX1_minds_28 rfl (Nat.le_of_ble_eq_true rfl) (by omega) (loc1 := [(2, 25), (2, 2)]) rfl ?_
        refine sp_ruleOf_2 hn (by omega) hR (by omega) (by omega) (by omega) (fun T hT eT => ?_)
        have hb := hT.b
        refine wp_iconst dX1_minds_31 (by decide) ?_
        refine wp_aload_n dX1_minds_32 rfl rfl ?_
        refine wp_iload_n dX1_minds_33 rfl rfl ?_
        refine wp_iload_n dX1_minds_34 rfl rfl ?_
        refine wp_callV0 (d' := d - 1) cv_RX1_33 T rfl [(0, 0), (2, 2), (0, x), (0, y)] [] rfl rfl (Or.inl ⟨_, _, hT.k0, by decide, rfl, by omega, by omega⟩) (by omega) (Nat.le_of_ble_eq_true rfl) dX1_minds_35 rfl (Nat.le_of_ble_eq_true rfl) (by omega) (loc1 := [(2, (T : Int)), (0, 0), (2, 2), (0, x), (0, y), (9, 0), (9, 0), (9, 0)]) rfl ?_
        obtain ⟨t0, t1, t2, t3⟩ := hX.2.2 (M 2 1).toNat (by omega)
        rw [← eT] at t0 t1 t2 t3
        refine sp_worth_2_0 hT hn hR (by omega) x y (by omega) (by omega) (by omega) (M (T + 2) 0).toNat (by omega) (by omega) (fun M1 hF1 hR1 => ?_)
        rw [show (run (M (T + 1)) (nmv M 2 true x y) (M (T + 2) 0).toNat 0 []).headD 0 = (evC M (M 2 1).toNat 0 (nmv M 2 true x y)) by rw [eT]; exact (if_neg (show ¬ 6 ≤ (M 2 1).toNat by omega)).symm]
        have hG := hF1.mono (fun i j h => VT.vx hT h)
        refine wp_if_eq (tgt := 45) dX1_minds_38 (by decide) (fun h38 => ?_) (fun h38 => ?_)
        · refine wp_iconst dX1_minds_45 (by decide) ?_
          refine wp_istore (loc' := [(2, 51), (2, 2), (0, x), (0, y), (0, 0), (9, 0)]) dX1_minds_46 (Nat.le_of_ble_eq_true rfl) rfl ?_
          refine wp_aload_n dX1_minds_48 rfl rfl ?_
          refine wp_aload_n dX1_minds_49 rfl rfl ?_
          refine wp_get 2 rfl fl_RX1_37 rfl ⟨by omega, by omega⟩ dX1_minds_50 rfl (v := 6) (sr_2_7 (M := M1) hR1) ?_
          refine wp_iload_n dX1_minds_53 rfl rfl ?_
          refine wp_callV0 (d' := d - 1) cv_RX1_40 2 rfl [(2, 6), (0, y)] [] rfl rfl (Or.inl ⟨_, _, rfl, by decide, rfl, by omega, by omega⟩) (by omega) (Nat.le_of_ble_eq_true rfl) dX1_minds_54 rfl (Nat.le_of_ble_eq_true rfl) (by omega) (loc1 := [(2, 2), (2, 6), (0, y)]) rfl ?_
          refine sp_of_gifts_2 hn hR1 y (by rw [hG 2 2 (by unfold VX; omega)]; omega) ?_
          rw [hG 6 y.toNat (by unfold VX; omega)]
          refine wp_if_ne (tgt := 64) dX1_minds_57 (by decide) (fun h57 => ?_) (fun h57 => ?_)
          · refine wp_iconst dX1_minds_64 (by decide) ?_
            refine wp_istore (loc' := [(2, 51), (2, 2), (0, x), (0, y), (0, 0), (0, 0)]) dX1_minds_65 (Nat.le_of_ble_eq_true rfl) rfl ?_
            refine wp_aload_n dX1_minds_67 rfl rfl ?_
            refine wp_aload_n dX1_minds_68 rfl rfl ?_
            refine wp_get 2 rfl fl_RX1_44 rfl ⟨by omega, by omega⟩ dX1_minds_69 rfl (v := 3) (sr_2_4 (M := M1) hR1) ?_
            refine wp_iload_n dX1_minds_72 rfl rfl ?_
            refine wp_callV0 (d' := d - 1) cv_RX1_40 2 rfl [(2, 3), (0, x)] [] rfl rfl (Or.inl ⟨_, _, rfl, by decide, rfl, by omega, by omega⟩) (by omega) (Nat.le_of_ble_eq_true rfl) dX1_minds_73 rfl (Nat.le_of_ble_eq_true rfl) (by omega) (loc1 := [(2, 2), (2, 3), (0, x)]) rfl ?_
            refine sp_of_kind_2 hn hR1 x (by rw [hG 2 2 (by unfold VX; omega)]; omega) ?_
            rw [hG 3 x.toNat (by unfold VX; omega)]
            by_cases h76_0 : (M 3 x.toNat) = 1
            · refine wp_tabIn dX1_minds_76 0 (by omega) (by decide) rfl (tgt := 112) (by decide) ?_
              refine wp_iload dX1_minds_112 rfl ?_
              refine wp_if_eq (tgt := 130) dX1_minds_114 (by decide) (fun _ => ?_) (fun h => absurd h (by decide))
              refine wp_iconst dX1_minds_130 (by decide) ?_
              refine wp_zret rfl (by omega) dX1_minds_131 ?_
              refine kf ?_ M1 hG hR1
              unfold mindsA
              rw [if_neg (by omega), show A.2 0 x.toNat = M 3 x.toNat from (ar 0 x.toNat (by omega) (by omega)).symm, show A.2 1 x.toNat = M 4 x.toNat from (ar 1 x.toNat (by omega) (by omega)).symm, show A.2 2 x.toNat = M 5 x.toNat from (ar 2 x.toNat (by omega) (by omega)).symm, show A.2 3 y.toNat = M 6 y.toNat from (ar 3 y.toNat (by omega) (by omega)).symm, show A.2 1 y.toNat = M 4 y.toNat from (ar 1 y.toNat (by omega) (by omega)).symm, ← a1, show nmA A true x y = nmv M 2 true x y from funext fun c => (nm_eq hA (by omega) (fun _ => by omega)).symm]
              unfold mndF
              (repeat' split) <;> first | rfl | omega | (simp only [decide_eq_true_eq, decide_eq_false_iff_not]; omega)
            by_cases h76_1 : (M 3 x.toNat) = 2
            · refine wp_tabIn dX1_minds_76 1 (by omega) (by decide) rfl (tgt := 132) (by decide) ?_
              refine wp_iload dX1_minds_132 rfl ?_
              refine wp_if_ne (tgt := 142) dX1_minds_134 (by decide) (fun h => absurd h (by decide)) (fun _ => ?_)
              refine wp_iload dX1_minds_137 rfl ?_
              refine wp_if_eq (tgt := 146) dX1_minds_139 (by decide) (fun _ => ?_) (fun h => absurd h (by decide))
              refine wp_iconst dX1_minds_146 (by decide) ?_
              refine wp_zret rfl (by omega) dX1_minds_147 ?_
              refine kf ?_ M1 hG hR1
              unfold mindsA
              rw [if_neg (by omega), show A.2 0 x.toNat = M 3 x.toNat from (ar 0 x.toNat (by omega) (by omega)).symm, show A.2 1 x.toNat = M 4 x.toNat from (ar 1 x.toNat (by omega) (by omega)).symm, show A.2 2 x.toNat = M 5 x.toNat from (ar 2 x.toNat (by omega) (by omega)).symm, show A.2 3 y.toNat = M 6 y.toNat from (ar 3 y.toNat (by omega) (by omega)).symm, show A.2 1 y.toNat = M 4 y.toNat from (ar 1 y.toNat (by omega) (by omega)).symm, ← a1, show nmA A true x y = nmv M 2 true x y from funext fun c => (nm_eq hA (by omega) (fun _ => by omega)).symm]
              unfold mndF
              (repeat' split) <;> first | rfl | omega | (simp only [decide_eq_true_eq, decide_eq_false_iff_not]; omega)
            by_cases h76_2 : (M 3 x.toNat) = 3
            · refine wp_tabIn dX1_minds_76 2 (by omega) (by decide) rfl (tgt := 148) (by decide) ?_
              refine wp_iconst dX1_minds_148 (by decide) ?_
              refine wp_zret rfl (by omega) dX1_minds_149 ?_
              refine kf ?_ M1 hG hR1
              unfold mindsA
              rw [if_neg (by omega), show A.2 0 x.toNat = M 3 x.toNat from (ar 0 x.toNat (by omega) (by omega)).symm, show A.2 1 x.toNat = M 4 x.toNat from (ar 1 x.toNat (by omega) (by omega)).symm, show A.2 2 x.toNat = M 5 x.toNat from (ar 2 x.toNat (by omega) (by omega)).symm, show A.2 3 y.toNat = M 6 y.toNat from (ar 3 y.toNat (by omega) (by omega)).symm, show A.2 1 y.toNat = M 4 y.toNat from (ar 1 y.toNat (by omega) (by omega)).symm, ← a1, show nmA A true x y = nmv M 2 true x y from funext fun c => (nm_eq hA (by omega) (fun _ => by omega)).symm]
              unfold mndF
              (repeat' split) <;> first | rfl | omega | (simp only [decide_eq_true_eq, decide_eq_false_iff_not]; omega)
            by_cases h76_3 : (M 3 x.toNat) = 4
            · refine wp_tabIn dX1_minds_76 3 (by omega) (by decide) rfl (tgt := 150) (by decide) ?_
              refine wp_iload dX1_minds_150 rfl ?_
              refine wp_if_ne (tgt := 181) dX1_minds_152 (by decide) (fun h => absurd h (by decide)) (fun _ => ?_)
              refine wp_iload dX1_minds_155 rfl ?_
              refine wp_if_ne (tgt := 181) dX1_minds_157 (by decide) (fun h => absurd h (by decide)) (fun _ => ?_)
              refine wp_aload_n dX1_minds_160 rfl rfl ?_
              refine wp_aload_n dX1_minds_161 rfl rfl ?_
              refine wp_get 2 rfl fl_RX1_51 rfl ⟨by omega, by omega⟩ dX1_minds_162 rfl (v := 4) (sr_2_5 (M := M1) hR1) ?_
              refine wp_iload_n dX1_minds_165 rfl rfl ?_
              refine wp_callV0 (d' := d - 1) cv_RX1_40 2 rfl [(2, 4), (0, y)] [] rfl rfl (Or.inl ⟨_, _, rfl, by decide, rfl, by omega, by omega⟩) (by omega) (Nat.le_of_ble_eq_true rfl) dX1_minds_166 rfl (Nat.le_of_ble_eq_true rfl) (by omega) (loc1 := [(2, 2), (2, 4), (0, y)]) rfl ?_
              refine sp_of_number_2 hn hR1 y (by rw [hG 2 2 (by unfold VX; omega)]; omega) ?_
              rw [hG 4 y.toNat (by unfold VX; omega)]
              refine wp_aload_n dX1_minds_169 rfl rfl ?_
              refine wp_aload_n dX1_minds_170 rfl rfl ?_
              refine wp_get 2 rfl fl_RX1_51 rfl ⟨by omega, by omega⟩ dX1_minds_171 rfl (v := 4) (sr_2_5 (M := M1) hR1) ?_
              refine wp_iload_n dX1_minds_174 rfl rfl ?_
              refine wp_callV0 (d' := d - 1) cv_RX1_40 2 rfl [(2, 4), (0, x)] [(0, (M 4 y.toNat))] rfl rfl (Or.inl ⟨_, _, rfl, by decide, rfl, by omega, by omega⟩) (by omega) (Nat.le_of_ble_eq_true rfl) dX1_minds_175 rfl (Nat.le_of_ble_eq_true rfl) (by omega) (loc1 := [(2, 2), (2, 4), (0, x)]) rfl ?_
              refine sp_of_number_2 hn hR1 x (by rw [hG 2 2 (by unfold VX; omega)]; omega) ?_
              rw [hG 4 x.toNat (by unfold VX; omega)]
              refine wp_icmp_ge (tgt := 185) dX1_minds_178 (by decide) (fun h178 => ?_) (fun h178 => ?_)
              · refine wp_iconst dX1_minds_185 (by decide) ?_
                refine wp_zret rfl (by omega) dX1_minds_186 ?_
                refine kf ?_ M1 hG hR1
                unfold mindsA
                rw [if_neg (by omega), show A.2 0 x.toNat = M 3 x.toNat from (ar 0 x.toNat (by omega) (by omega)).symm, show A.2 1 x.toNat = M 4 x.toNat from (ar 1 x.toNat (by omega) (by omega)).symm, show A.2 2 x.toNat = M 5 x.toNat from (ar 2 x.toNat (by omega) (by omega)).symm, show A.2 3 y.toNat = M 6 y.toNat from (ar 3 y.toNat (by omega) (by omega)).symm, show A.2 1 y.toNat = M 4 y.toNat from (ar 1 y.toNat (by omega) (by omega)).symm, ← a1, show nmA A true x y = nmv M 2 true x y from funext fun c => (nm_eq hA (by omega) (fun _ => by omega)).symm]
                unfold mndF
                (repeat' split) <;> first | rfl | omega | (simp only [decide_eq_true_eq, decide_eq_false_iff_not]; omega)
              · refine wp_iconst dX1_minds_181 (by decide) ?_
                refine wp_goto (tgt := 186) dX1_minds_182 (by decide) ?_
                refine wp_zret rfl (by omega) dX1_minds_186 ?_
                refine kt ?_ M1 hG hR1
                unfold mindsA
                rw [if_neg (by omega), show A.2 0 x.toNat = M 3 x.toNat from (ar 0 x.toNat (by omega) (by omega)).symm, show A.2 1 x.toNat = M 4 x.toNat from (ar 1 x.toNat (by omega) (by omega)).symm, show A.2 2 x.toNat = M 5 x.toNat from (ar 2 x.toNat (by omega) (by omega)).symm, show A.2 3 y.toNat = M 6 y.toNat from (ar 3 y.toNat (by omega) (by omega)).symm, show A.2 1 y.toNat = M 4 y.toNat from (ar 1 y.toNat (by omega) (by omega)).symm, ← a1, show nmA A true x y = nmv M 2 true x y from funext fun c => (nm_eq hA (by omega) (fun _ => by omega)).symm]
                unfold mndF
                (repeat' split) <;> first | rfl | omega | (simp only [decide_eq_true_eq, decide_eq_false_iff_not]; omega)
            by_cases h76_4 : (M 3 x.toNat) = 5
            · refine wp_tabIn dX1_minds_76 4 (by omega) (by decide) rfl (tgt := 187) (by decide) ?_
              refine wp_iconst dX1_minds_187 (by decide) ?_
              refine wp_zret rfl (by omega) dX1_minds_188 ?_
              refine kt ?_ M1 hG hR1
              unfold mindsA
              rw [if_neg (by omega), show A.2 0 x.toNat = M 3 x.toNat from (ar 0 x.toNat (by omega) (by omega)).symm, show A.2 1 x.toNat = M 4 x.toNat from (ar 1 x.toNat (by omega) (by omega)).symm, show A.2 2 x.toNat = M 5 x.toNat from (ar 2 x.toNat (by omega) (by omega)).symm, show A.2 3 y.toNat = M 6 y.toNat from (ar 3 y.toNat (by omega) (by omega)).symm, show A.2 1 y.toNat = M 4 y.toNat from (ar 1 y.toNat (by omega) (by omega)).symm, ← a1, show nmA A true x y = nmv M 2 true x y from funext fun c => (nm_eq hA (by omega) (fun _ => by omega)).symm]
              unfold mndF
              (repeat' split) <;> first | rfl | omega | (simp only [decide_eq_true_eq, decide_eq_false_iff_not]; omega)
            refine wp_tabOut dX1_minds_76 (by omega) (tgt := 189) (by decide) ?_
            refine wp_iload dX1_minds_189 rfl ?_
            refine wp_zret rfl (by omega) dX1_minds_191 ?_
            refine kf ?_ M1 hG hR1
            unfold mindsA
            rw [if_neg (by omega), show A.2 0 x.toNat = M 3 x.toNat from (ar 0 x.toNat (by omega) (by omega)).symm, show A.2 1 x.toNat = M 4 x.toNat from (ar 1 x.toNat (by omega) (by omega)).symm, show A.2 2 x.toNat = M 5 x.toNat from (ar 2 x.toNat (by omega) (by omega)).symm, show A.2 3 y.toNat = M 6 y.toNat from (ar 3 y.toNat (by omega) (by omega)).symm, show A.2 1 y.toNat = M 4 y.toNat from (ar 1 y.toNat (by omega) (by omega)).symm, ← a1, show nmA A true x y = nmv M 2 true x y from funext fun c => (nm_eq hA (by omega) (fun _ => by omega)).symm]
            unfold mndF
            (repeat' split) <;> first | rfl | omega | (simp only [decide_eq_true_eq, decide_eq_false_iff_not]; omega)
          · refine wp_iconst dX1_minds_60 (by decide) ?_
            refine wp_goto (tgt := 65) dX1_minds_61 (by decide) ?_
            refine wp_istore (loc' := [(2, 51), (2, 2), (0, x), (0, y), (0, 0), (0, 1)]) dX1_minds_65 (Nat.le_of_ble_eq_true rfl) rfl ?_
            refine wp_aload_n dX1_minds_67 rfl rfl ?_
            refine wp_aload_n dX1_minds_68 rfl rfl ?_
            refine wp_get 2 rfl fl_RX1_44 rfl ⟨by omega, by omega⟩ dX1_minds_69 rfl (v := 3) (sr_2_4 (M := M1) hR1) ?_
            refine wp_iload_n dX1_minds_72 rfl rfl ?_
            refine wp_callV0 (d' := d - 1) cv_RX1_40 2 rfl [(2, 3), (0, x)] [] rfl rfl (Or.inl ⟨_, _, rfl, by decide, rfl, by omega, by omega⟩) (by omega) (Nat.le_of_ble_eq_true rfl) dX1_minds_73 rfl (Nat.le_of_ble_eq_true rfl) (by omega) (loc1 := [(2, 2), (2, 3), (0, x)]) rfl ?_
            refine sp_of_kind_2 hn hR1 x (by rw [hG 2 2 (by unfold VX; omega)]; omega) ?_
            rw [hG 3 x.toNat (by unfold VX; omega)]
            by_cases h76_0 : (M 3 x.toNat) = 1
            · refine wp_tabIn dX1_minds_76 0 (by omega) (by decide) rfl (tgt := 112) (by decide) ?_
              refine wp_iload dX1_minds_112 rfl ?_
              refine wp_if_eq (tgt := 130) dX1_minds_114 (by decide) (fun _ => ?_) (fun h => absurd h (by decide))
              refine wp_iconst dX1_minds_130 (by decide) ?_
              refine wp_zret rfl (by omega) dX1_minds_131 ?_
              refine kf ?_ M1 hG hR1
              unfold mindsA
              rw [if_neg (by omega), show A.2 0 x.toNat = M 3 x.toNat from (ar 0 x.toNat (by omega) (by omega)).symm, show A.2 1 x.toNat = M 4 x.toNat from (ar 1 x.toNat (by omega) (by omega)).symm, show A.2 2 x.toNat = M 5 x.toNat from (ar 2 x.toNat (by omega) (by omega)).symm, show A.2 3 y.toNat = M 6 y.toNat from (ar 3 y.toNat (by omega) (by omega)).symm, show A.2 1 y.toNat = M 4 y.toNat from (ar 1 y.toNat (by omega) (by omega)).symm, ← a1, show nmA A true x y = nmv M 2 true x y from funext fun c => (nm_eq hA (by omega) (fun _ => by omega)).symm]
              unfold mndF
              (repeat' split) <;> first | rfl | omega | (simp only [decide_eq_true_eq, decide_eq_false_iff_not]; omega)
            by_cases h76_1 : (M 3 x.toNat) = 2
            · refine wp_tabIn dX1_minds_76 1 (by omega) (by decide) rfl (tgt := 132) (by decide) ?_
              refine wp_iload dX1_minds_132 rfl ?_
              refine wp_if_ne (tgt := 142) dX1_minds_134 (by decide) (fun h => absurd h (by decide)) (fun _ => ?_)
              refine wp_iload dX1_minds_137 rfl ?_
              refine wp_if_eq (tgt := 146) dX1_minds_139 (by decide) (fun h => absurd h (by decide)) (fun _ => ?_)
              refine wp_iconst dX1_minds_142 (by decide) ?_
              refine wp_goto (tgt := 147) dX1_minds_143 (by decide) ?_
              refine wp_zret rfl (by omega) dX1_minds_147 ?_
              refine kt ?_ M1 hG hR1
              unfold mindsA
              rw [if_neg (by omega), show A.2 0 x.toNat = M 3 x.toNat from (ar 0 x.toNat (by omega) (by omega)).symm, show A.2 1 x.toNat = M 4 x.toNat from (ar 1 x.toNat (by omega) (by omega)).symm, show A.2 2 x.toNat = M 5 x.toNat from (ar 2 x.toNat (by omega) (by omega)).symm, show A.2 3 y.toNat = M 6 y.toNat from (ar 3 y.toNat (by omega) (by omega)).symm, show A.2 1 y.toNat = M 4 y.toNat from (ar 1 y.toNat (by omega) (by omega)).symm, ← a1, show nmA A true x y = nmv M 2 true x y from funext fun c => (nm_eq hA (by omega) (fun _ => by omega)).symm]
              unfold mndF
              (repeat' split) <;> first | rfl | omega | (simp only [decide_eq_true_eq, decide_eq_false_iff_not]; omega)
            by_cases h76_2 : (M 3 x.toNat) = 3
            · refine wp_tabIn dX1_minds_76 2 (by omega) (by decide) rfl (tgt := 148) (by decide) ?_
              refine wp_iconst dX1_minds_148 (by decide) ?_
              refine wp_zret rfl (by omega) dX1_minds_149 ?_
              refine kf ?_ M1 hG hR1
              unfold mindsA
              rw [if_neg (by omega), show A.2 0 x.toNat = M 3 x.toNat from (ar 0 x.toNat (by omega) (by omega)).symm, show A.2 1 x.toNat = M 4 x.toNat from (ar 1 x.toNat (by omega) (by omega)).symm, show A.2 2 x.toNat = M 5 x.toNat from (ar 2 x.toNat (by omega) (by omega)).symm, show A.2 3 y.toNat = M 6 y.toNat from (ar 3 y.toNat (by omega) (by omega)).symm, show A.2 1 y.toNat = M 4 y.toNat from (ar 1 y.toNat (by omega) (by omega)).symm, ← a1, show nmA A true x y = nmv M 2 true x y from funext fun c => (nm_eq hA (by omega) (fun _ => by omega)).symm]
              unfold mndF
              (repeat' split) <;> first | rfl | omega | (simp only [decide_eq_true_eq, decide_eq_false_iff_not]; omega)
            by_cases h76_3 : (M 3 x.toNat) = 4
            · refine wp_tabIn dX1_minds_76 3 (by omega) (by decide) rfl (tgt := 150) (by decide) ?_
              refine wp_iload dX1_minds_150 rfl ?_
              refine wp_if_ne (tgt := 181) dX1_minds_152 (by decide) (fun h => absurd h (by decide)) (fun _ => ?_)
              refine wp_iload dX1_minds_155 rfl ?_
              refine wp_if_ne (tgt := 181) dX1_minds_157 (by decide) (fun _ => ?_) (fun h => absurd h (by decide))
              refine wp_iconst dX1_minds_181 (by decide) ?_
              refine wp_goto (tgt := 186) dX1_minds_182 (by decide) ?_
              refine wp_zret rfl (by omega) dX1_minds_186 ?_
              refine kt ?_ M1 hG hR1
              unfold mindsA
              rw [if_neg (by omega), show A.2 0 x.toNat = M 3 x.toNat from (ar 0 x.toNat (by omega) (by omega)).symm, show A.2 1 x.toNat = M 4 x.toNat from (ar 1 x.toNat (by omega) (by omega)).symm, show A.2 2 x.toNat = M 5 x.toNat from (ar 2 x.toNat (by omega) (by omega)).symm, show A.2 3 y.toNat = M 6 y.toNat from (ar 3 y.toNat (by omega) (by omega)).symm, show A.2 1 y.toNat = M 4 y.toNat from (ar 1 y.toNat (by omega) (by omega)).symm, ← a1, show nmA A true x y = nmv M 2 true x y from funext fun c => (nm_eq hA (by omega) (fun _ => by omega)).symm]
              unfold mndF
              (repeat' split) <;> first | rfl | omega | (simp only [decide_eq_true_eq, decide_eq_false_iff_not]; omega)
            by_cases h76_4 : (M 3 x.toNat) = 5
            · refine wp_tabIn dX1_minds_76 4 (by omega) (by decide) rfl (tgt := 187) (by decide) ?_
              refine wp_iconst dX1_minds_187 (by decide) ?_
              refine wp_zret rfl (by omega) dX1_minds_188 ?_
              refine kt ?_ M1 hG hR1
              unfold mindsA
              rw [if_neg (by omega), show A.2 0 x.toNat = M 3 x.toNat from (ar 0 x.toNat (by omega) (by omega)).symm, show A.2 1 x.toNat = M 4 x.toNat from (ar 1 x.toNat (by omega) (by omega)).symm, show A.2 2 x.toNat = M 5 x.toNat from (ar 2 x.toNat (by omega) (by omega)).symm, show A.2 3 y.toNat = M 6 y.toNat from (ar 3 y.toNat (by omega) (by omega)).symm, show A.2 1 y.toNat = M 4 y.toNat from (ar 1 y.toNat (by omega) (by omega)).symm, ← a1, show nmA A true x y = nmv M 2 true x y from funext fun c => (nm_eq hA (by omega) (fun _ => by omega)).symm]
              unfold mndF
              (repeat' split) <;> first | rfl | omega | (simp only [decide_eq_true_eq, decide_eq_false_iff_not]; omega)
            refine wp_tabOut dX1_minds_76 (by omega) (tgt := 189) (by decide) ?_
            refine wp_iload dX1_minds_189 rfl ?_
            refine wp_zret rfl (by omega) dX1_minds_191 ?_
            refine kf ?_ M1 hG hR1
            unfold mindsA
            rw [if_neg (by omega), show A.2 0 x.toNat = M 3 x.toNat from (ar 0 x.toNat (by omega) (by omega)).symm, show A.2 1 x.toNat = M 4 x.toNat from (ar 1 x.toNat (by omega) (by omega)).symm, show A.2 2 x.toNat = M 5 x.toNat from (ar 2 x.toNat (by omega) (by omega)).symm, show A.2 3 y.toNat = M 6 y.toNat from (ar 3 y.toNat (by omega) (by omega)).symm, show A.2 1 y.toNat = M 4 y.toNat from (ar 1 y.toNat (by omega) (by omega)).symm, ← a1, show nmA A true x y = nmv M 2 true x y from funext fun c => (nm_eq hA (by omega) (fun _ => by omega)).symm]
            unfold mndF
            (repeat' split) <;> first | rfl | omega | (simp only [decide_eq_true_eq, decide_eq_false_iff_not]; omega)
        · refine wp_iconst dX1_minds_41 (by decide) ?_
          refine wp_goto (tgt := 46) dX1_minds_42 (by decide) ?_
          refine wp_istore (loc' := [(2, 51), (2, 2), (0, x), (0, y), (0, 1), (9, 0)]) dX1_minds_46 (Nat.le_of_ble_eq_true rfl) rfl ?_
          refine wp_aload_n dX1_minds_48 rfl rfl ?_
          refine wp_aload_n dX1_minds_49 rfl rfl ?_
          refine wp_get 2 rfl fl_RX1_37 rfl ⟨by omega, by omega⟩ dX1_minds_50 rfl (v := 6) (sr_2_7 (M := M1) hR1) ?_
          refine wp_iload_n dX1_minds_53 rfl rfl ?_
          refine wp_callV0 (d' := d - 1) cv_RX1_40 2 rfl [(2, 6), (0, y)] [] rfl rfl (Or.inl ⟨_, _, rfl, by decide, rfl, by omega, by omega⟩) (by omega) (Nat.le_of_ble_eq_true rfl) dX1_minds_54 rfl (Nat.le_of_ble_eq_true rfl) (by omega) (loc1 := [(2, 2), (2, 6), (0, y)]) rfl ?_
          refine sp_of_gifts_2 hn hR1 y (by rw [hG 2 2 (by unfold VX; omega)]; omega) ?_
          rw [hG 6 y.toNat (by unfold VX; omega)]
          refine wp_if_ne (tgt := 64) dX1_minds_57 (by decide) (fun h57 => ?_) (fun h57 => ?_)
          · refine wp_iconst dX1_minds_64 (by decide) ?_
            refine wp_istore (loc' := [(2, 51), (2, 2), (0, x), (0, y), (0, 1), (0, 0)]) dX1_minds_65 (Nat.le_of_ble_eq_true rfl) rfl ?_
            refine wp_aload_n dX1_minds_67 rfl rfl ?_
            refine wp_aload_n dX1_minds_68 rfl rfl ?_
            refine wp_get 2 rfl fl_RX1_44 rfl ⟨by omega, by omega⟩ dX1_minds_69 rfl (v := 3) (sr_2_4 (M := M1) hR1) ?_
            refine wp_iload_n dX1_minds_72 rfl rfl ?_
            refine wp_callV0 (d' := d - 1) cv_RX1_40 2 rfl [(2, 3), (0, x)] [] rfl rfl (Or.inl ⟨_, _, rfl, by decide, rfl, by omega, by omega⟩) (by omega) (Nat.le_of_ble_eq_true rfl) dX1_minds_73 rfl (Nat.le_of_ble_eq_true rfl) (by omega) (loc1 := [(2, 2), (2, 3), (0, x)]) rfl ?_
            refine sp_of_kind_2 hn hR1 x (by rw [hG 2 2 (by unfold VX; omega)]; omega) ?_
            rw [hG 3 x.toNat (by unfold VX; omega)]
            by_cases h76_0 : (M 3 x.toNat) = 1
            · refine wp_tabIn dX1_minds_76 0 (by omega) (by decide) rfl (tgt := 112) (by decide) ?_
              refine wp_iload dX1_minds_112 rfl ?_
              refine wp_if_eq (tgt := 130) dX1_minds_114 (by decide) (fun h => absurd h (by decide)) (fun _ => ?_)
              refine wp_aload_n dX1_minds_117 rfl rfl ?_
              refine wp_iload_n dX1_minds_118 rfl rfl ?_
              refine wp_iload_n dX1_minds_119 rfl rfl ?_
              refine wp_callV0 (d' := d - 1) cv_RX1_47 2 rfl [(0, x), (0, y)] [] rfl rfl (Or.inl ⟨_, _, rfl, by decide, rfl, by omega, by omega⟩) (by omega) (Nat.le_of_ble_eq_true rfl) dX1_minds_120 rfl (Nat.le_of_ble_eq_true rfl) (by omega) (loc1 := [(2, 2), (0, x), (0, y)]) rfl ?_
              refine sp_likes_2 hn hR1 x y (by rw [hG 2 2 (by unfold VX; omega)]; omega) ?_
              rw [hG 5 x.toNat (by unfold VX; omega)]
              refine wp_if_ne (tgt := 130) dX1_minds_123 (by decide) (fun h123 => ?_) (fun h123 => ?_)
              · refine wp_iconst dX1_minds_130 (by decide) ?_
                refine wp_zret rfl (by omega) dX1_minds_131 ?_
                refine kf ?_ M1 hG hR1
                unfold mindsA
                rw [if_neg (by omega), show A.2 0 x.toNat = M 3 x.toNat from (ar 0 x.toNat (by omega) (by omega)).symm, show A.2 1 x.toNat = M 4 x.toNat from (ar 1 x.toNat (by omega) (by omega)).symm, show A.2 2 x.toNat = M 5 x.toNat from (ar 2 x.toNat (by omega) (by omega)).symm, show A.2 3 y.toNat = M 6 y.toNat from (ar 3 y.toNat (by omega) (by omega)).symm, show A.2 1 y.toNat = M 4 y.toNat from (ar 1 y.toNat (by omega) (by omega)).symm, ← a1, show nmA A true x y = nmv M 2 true x y from funext fun c => (nm_eq hA (by omega) (fun _ => by omega)).symm]
                unfold mndF
                (repeat' split) <;> first | rfl | omega | (simp only [decide_eq_true_eq, decide_eq_false_iff_not]; omega)
              · refine wp_iconst dX1_minds_126 (by decide) ?_
                refine wp_goto (tgt := 131) dX1_minds_127 (by decide) ?_
                refine wp_zret rfl (by omega) dX1_minds_131 ?_
                refine kt ?_ M1 hG hR1
                unfold mindsA
                rw [if_neg (by omega), show A.2 0 x.toNat = M 3 x.toNat from (ar 0 x.toNat (by omega) (by omega)).symm, show A.2 1 x.toNat = M 4 x.toNat from (ar 1 x.toNat (by omega) (by omega)).symm, show A.2 2 x.toNat = M 5 x.toNat from (ar 2 x.toNat (by omega) (by omega)).symm, show A.2 3 y.toNat = M 6 y.toNat from (ar 3 y.toNat (by omega) (by omega)).symm, show A.2 1 y.toNat = M 4 y.toNat from (ar 1 y.toNat (by omega) (by omega)).symm, ← a1, show nmA A true x y = nmv M 2 true x y from funext fun c => (nm_eq hA (by omega) (fun _ => by omega)).symm]
                unfold mndF
                (repeat' split) <;> first | rfl | omega | (simp only [decide_eq_true_eq, decide_eq_false_iff_not]; omega)
            by_cases h76_1 : (M 3 x.toNat) = 2
            · refine wp_tabIn dX1_minds_76 1 (by omega) (by decide) rfl (tgt := 132) (by decide) ?_
              refine wp_iload dX1_minds_132 rfl ?_
              refine wp_if_ne (tgt := 142) dX1_minds_134 (by decide) (fun _ => ?_) (fun h => absurd h (by decide))
              refine wp_iconst dX1_minds_142 (by decide) ?_
              refine wp_goto (tgt := 147) dX1_minds_143 (by decide) ?_
              refine wp_zret rfl (by omega) dX1_minds_147 ?_
              refine kt ?_ M1 hG hR1
              unfold mindsA
              rw [if_neg (by omega), show A.2 0 x.toNat = M 3 x.toNat from (ar 0 x.toNat (by omega) (by omega)).symm, show A.2 1 x.toNat = M 4 x.toNat from (ar 1 x.toNat (by omega) (by omega)).symm, show A.2 2 x.toNat = M 5 x.toNat from (ar 2 x.toNat (by omega) (by omega)).symm, show A.2 3 y.toNat = M 6 y.toNat from (ar 3 y.toNat (by omega) (by omega)).symm, show A.2 1 y.toNat = M 4 y.toNat from (ar 1 y.toNat (by omega) (by omega)).symm, ← a1, show nmA A true x y = nmv M 2 true x y from funext fun c => (nm_eq hA (by omega) (fun _ => by omega)).symm]
              unfold mndF
              (repeat' split) <;> first | rfl | omega | (simp only [decide_eq_true_eq, decide_eq_false_iff_not]; omega)
            by_cases h76_2 : (M 3 x.toNat) = 3
            · refine wp_tabIn dX1_minds_76 2 (by omega) (by decide) rfl (tgt := 148) (by decide) ?_
              refine wp_iconst dX1_minds_148 (by decide) ?_
              refine wp_zret rfl (by omega) dX1_minds_149 ?_
              refine kf ?_ M1 hG hR1
              unfold mindsA
              rw [if_neg (by omega), show A.2 0 x.toNat = M 3 x.toNat from (ar 0 x.toNat (by omega) (by omega)).symm, show A.2 1 x.toNat = M 4 x.toNat from (ar 1 x.toNat (by omega) (by omega)).symm, show A.2 2 x.toNat = M 5 x.toNat from (ar 2 x.toNat (by omega) (by omega)).symm, show A.2 3 y.toNat = M 6 y.toNat from (ar 3 y.toNat (by omega) (by omega)).symm, show A.2 1 y.toNat = M 4 y.toNat from (ar 1 y.toNat (by omega) (by omega)).symm, ← a1, show nmA A true x y = nmv M 2 true x y from funext fun c => (nm_eq hA (by omega) (fun _ => by omega)).symm]
              unfold mndF
              (repeat' split) <;> first | rfl | omega | (simp only [decide_eq_true_eq, decide_eq_false_iff_not]; omega)
            by_cases h76_3 : (M 3 x.toNat) = 4
            · refine wp_tabIn dX1_minds_76 3 (by omega) (by decide) rfl (tgt := 150) (by decide) ?_
              refine wp_iload dX1_minds_150 rfl ?_
              refine wp_if_ne (tgt := 181) dX1_minds_152 (by decide) (fun _ => ?_) (fun h => absurd h (by decide))
              refine wp_iconst dX1_minds_181 (by decide) ?_
              refine wp_goto (tgt := 186) dX1_minds_182 (by decide) ?_
              refine wp_zret rfl (by omega) dX1_minds_186 ?_
              refine kt ?_ M1 hG hR1
              unfold mindsA
              rw [if_neg (by omega), show A.2 0 x.toNat = M 3 x.toNat from (ar 0 x.toNat (by omega) (by omega)).symm, show A.2 1 x.toNat = M 4 x.toNat from (ar 1 x.toNat (by omega) (by omega)).symm, show A.2 2 x.toNat = M 5 x.toNat from (ar 2 x.toNat (by omega) (by omega)).symm, show A.2 3 y.toNat = M 6 y.toNat from (ar 3 y.toNat (by omega) (by omega)).symm, show A.2 1 y.toNat = M 4 y.toNat from (ar 1 y.toNat (by omega) (by omega)).symm, ← a1, show nmA A true x y = nmv M 2 true x y from funext fun c => (nm_eq hA (by omega) (fun _ => by omega)).symm]
              unfold mndF
              (repeat' split) <;> first | rfl | omega | (simp only [decide_eq_true_eq, decide_eq_false_iff_not]; omega)
            by_cases h76_4 : (M 3 x.toNat) = 5
            · refine wp_tabIn dX1_minds_76 4 (by omega) (by decide) rfl (tgt := 187) (by decide) ?_
              refine wp_iconst dX1_minds_187 (by decide) ?_
              refine wp_zret rfl (by omega) dX1_minds_188 ?_
              refine kt ?_ M1 hG hR1
              unfold mindsA
              rw [if_neg (by omega), show A.2 0 x.toNat = M 3 x.toNat from (ar 0 x.toNat (by omega) (by omega)).symm, show A.2 1 x.toNat = M 4 x.toNat from (ar 1 x.toNat (by omega) (by omega)).symm, show A.2 2 x.toNat = M 5 x.toNat from (ar 2 x.toNat (by omega) (by omega)).symm, show A.2 3 y.toNat = M 6 y.toNat from (ar 3 y.toNat (by omega) (by omega)).symm, show A.2 1 y.toNat = M 4 y.toNat from (ar 1 y.toNat (by omega) (by omega)).symm, ← a1, show nmA A true x y = nmv M 2 true x y from funext fun c => (nm_eq hA (by omega) (fun _ => by omega)).symm]
              unfold mndF
              (repeat' split) <;> first | rfl | omega | (simp only [decide_eq_true_eq, decide_eq_false_iff_not]; omega)
            refine wp_tabOut dX1_minds_76 (by omega) (tgt := 189) (by decide) ?_
            refine wp_iload dX1_minds_189 rfl ?_
            refine wp_zret rfl (by omega) dX1_minds_191 ?_
            refine kt ?_ M1 hG hR1
            unfold mindsA
            rw [if_neg (by omega), show A.2 0 x.toNat = M 3 x.toNat from (ar 0 x.toNat (by omega) (by omega)).symm, show A.2 1 x.toNat = M 4 x.toNat from (ar 1 x.toNat (by omega) (by omega)).symm, show A.2 2 x.toNat = M 5 x.toNat from (ar 2 x.toNat (by omega) (by omega)).symm, show A.2 3 y.toNat = M 6 y.toNat from (ar 3 y.toNat (by omega) (by omega)).symm, show A.2 1 y.toNat = M 4 y.toNat from (ar 1 y.toNat (by omega) (by omega)).symm, ← a1, show nmA A true x y = nmv M 2 true x y from funext fun c => (nm_eq hA (by omega) (fun _ => by omega)).symm]
            unfold mndF
            (repeat' split) <;> first | rfl | omega | (simp only [decide_eq_true_eq, decide_eq_false_iff_not]; omega)
          · refine wp_iconst dX1_minds_60 (by decide) ?_
            refine wp_goto (tgt := 65) dX1_minds_61 (by decide) ?_
            refine wp_istore (loc' := [(2, 51), (2, 2), (0, x), (0, y), (0, 1), (0, 1)]) dX1_minds_65 (Nat.le_of_ble_eq_true rfl) rfl ?_
            refine wp_aload_n dX1_minds_67 rfl rfl ?_
            refine wp_aload_n dX1_minds_68 rfl rfl ?_
            refine wp_get 2 rfl fl_RX1_44 rfl ⟨by omega, by omega⟩ dX1_minds_69 rfl (v := 3) (sr_2_4 (M := M1) hR1) ?_
            refine wp_iload_n dX1_minds_72 rfl rfl ?_
            refine wp_callV0 (d' := d - 1) cv_RX1_40 2 rfl [(2, 3), (0, x)] [] rfl rfl (Or.inl ⟨_, _, rfl, by decide, rfl, by omega, by omega⟩) (by omega) (Nat.le_of_ble_eq_true rfl) dX1_minds_73 rfl (Nat.le_of_ble_eq_true rfl) (by omega) (loc1 := [(2, 2), (2, 3), (0, x)]) rfl ?_
            refine sp_of_kind_2 hn hR1 x (by rw [hG 2 2 (by unfold VX; omega)]; omega) ?_
            rw [hG 3 x.toNat (by unfold VX; omega)]
            by_cases h76_0 : (M 3 x.toNat) = 1
            · refine wp_tabIn dX1_minds_76 0 (by omega) (by decide) rfl (tgt := 112) (by decide) ?_
              refine wp_iload dX1_minds_112 rfl ?_
              refine wp_if_eq (tgt := 130) dX1_minds_114 (by decide) (fun h => absurd h (by decide)) (fun _ => ?_)
              refine wp_aload_n dX1_minds_117 rfl rfl ?_
              refine wp_iload_n dX1_minds_118 rfl rfl ?_
              refine wp_iload_n dX1_minds_119 rfl rfl ?_
              refine wp_callV0 (d' := d - 1) cv_RX1_47 2 rfl [(0, x), (0, y)] [] rfl rfl (Or.inl ⟨_, _, rfl, by decide, rfl, by omega, by omega⟩) (by omega) (Nat.le_of_ble_eq_true rfl) dX1_minds_120 rfl (Nat.le_of_ble_eq_true rfl) (by omega) (loc1 := [(2, 2), (0, x), (0, y)]) rfl ?_
              refine sp_likes_2 hn hR1 x y (by rw [hG 2 2 (by unfold VX; omega)]; omega) ?_
              rw [hG 5 x.toNat (by unfold VX; omega)]
              refine wp_if_ne (tgt := 130) dX1_minds_123 (by decide) (fun h123 => ?_) (fun h123 => ?_)
              · refine wp_iconst dX1_minds_130 (by decide) ?_
                refine wp_zret rfl (by omega) dX1_minds_131 ?_
                refine kf ?_ M1 hG hR1
                unfold mindsA
                rw [if_neg (by omega), show A.2 0 x.toNat = M 3 x.toNat from (ar 0 x.toNat (by omega) (by omega)).symm, show A.2 1 x.toNat = M 4 x.toNat from (ar 1 x.toNat (by omega) (by omega)).symm, show A.2 2 x.toNat = M 5 x.toNat from (ar 2 x.toNat (by omega) (by omega)).symm, show A.2 3 y.toNat = M 6 y.toNat from (ar 3 y.toNat (by omega) (by omega)).symm, show A.2 1 y.toNat = M 4 y.toNat from (ar 1 y.toNat (by omega) (by omega)).symm, ← a1, show nmA A true x y = nmv M 2 true x y from funext fun c => (nm_eq hA (by omega) (fun _ => by omega)).symm]
                unfold mndF
                (repeat' split) <;> first | rfl | omega | (simp only [decide_eq_true_eq, decide_eq_false_iff_not]; omega)
              · refine wp_iconst dX1_minds_126 (by decide) ?_
                refine wp_goto (tgt := 131) dX1_minds_127 (by decide) ?_
                refine wp_zret rfl (by omega) dX1_minds_131 ?_
                refine kt ?_ M1 hG hR1
                unfold mindsA
                rw [if_neg (by omega), show A.2 0 x.toNat = M 3 x.toNat from (ar 0 x.toNat (by omega) (by omega)).symm, show A.2 1 x.toNat = M 4 x.toNat from (ar 1 x.toNat (by omega) (by omega)).symm, show A.2 2 x.toNat = M 5 x.toNat from (ar 2 x.toNat (by omega) (by omega)).symm, show A.2 3 y.toNat = M 6 y.toNat from (ar 3 y.toNat (by omega) (by omega)).symm, show A.2 1 y.toNat = M 4 y.toNat from (ar 1 y.toNat (by omega) (by omega)).symm, ← a1, show nmA A true x y = nmv M 2 true x y from funext fun c => (nm_eq hA (by omega) (fun _ => by omega)).symm]
                unfold mndF
                (repeat' split) <;> first | rfl | omega | (simp only [decide_eq_true_eq, decide_eq_false_iff_not]; omega)
            by_cases h76_1 : (M 3 x.toNat) = 2
            · refine wp_tabIn dX1_minds_76 1 (by omega) (by decide) rfl (tgt := 132) (by decide) ?_
              refine wp_iload dX1_minds_132 rfl ?_
              refine wp_if_ne (tgt := 142) dX1_minds_134 (by decide) (fun _ => ?_) (fun h => absurd h (by decide))
              refine wp_iconst dX1_minds_142 (by decide) ?_
              refine wp_goto (tgt := 147) dX1_minds_143 (by decide) ?_
              refine wp_zret rfl (by omega) dX1_minds_147 ?_
              refine kt ?_ M1 hG hR1
              unfold mindsA
              rw [if_neg (by omega), show A.2 0 x.toNat = M 3 x.toNat from (ar 0 x.toNat (by omega) (by omega)).symm, show A.2 1 x.toNat = M 4 x.toNat from (ar 1 x.toNat (by omega) (by omega)).symm, show A.2 2 x.toNat = M 5 x.toNat from (ar 2 x.toNat (by omega) (by omega)).symm, show A.2 3 y.toNat = M 6 y.toNat from (ar 3 y.toNat (by omega) (by omega)).symm, show A.2 1 y.toNat = M 4 y.toNat from (ar 1 y.toNat (by omega) (by omega)).symm, ← a1, show nmA A true x y = nmv M 2 true x y from funext fun c => (nm_eq hA (by omega) (fun _ => by omega)).symm]
              unfold mndF
              (repeat' split) <;> first | rfl | omega | (simp only [decide_eq_true_eq, decide_eq_false_iff_not]; omega)
            by_cases h76_2 : (M 3 x.toNat) = 3
            · refine wp_tabIn dX1_minds_76 2 (by omega) (by decide) rfl (tgt := 148) (by decide) ?_
              refine wp_iconst dX1_minds_148 (by decide) ?_
              refine wp_zret rfl (by omega) dX1_minds_149 ?_
              refine kf ?_ M1 hG hR1
              unfold mindsA
              rw [if_neg (by omega), show A.2 0 x.toNat = M 3 x.toNat from (ar 0 x.toNat (by omega) (by omega)).symm, show A.2 1 x.toNat = M 4 x.toNat from (ar 1 x.toNat (by omega) (by omega)).symm, show A.2 2 x.toNat = M 5 x.toNat from (ar 2 x.toNat (by omega) (by omega)).symm, show A.2 3 y.toNat = M 6 y.toNat from (ar 3 y.toNat (by omega) (by omega)).symm, show A.2 1 y.toNat = M 4 y.toNat from (ar 1 y.toNat (by omega) (by omega)).symm, ← a1, show nmA A true x y = nmv M 2 true x y from funext fun c => (nm_eq hA (by omega) (fun _ => by omega)).symm]
              unfold mndF
              (repeat' split) <;> first | rfl | omega | (simp only [decide_eq_true_eq, decide_eq_false_iff_not]; omega)
            by_cases h76_3 : (M 3 x.toNat) = 4
            · refine wp_tabIn dX1_minds_76 3 (by omega) (by decide) rfl (tgt := 150) (by decide) ?_
              refine wp_iload dX1_minds_150 rfl ?_
              refine wp_if_ne (tgt := 181) dX1_minds_152 (by decide) (fun _ => ?_) (fun h => absurd h (by decide))
              refine wp_iconst dX1_minds_181 (by decide) ?_
              refine wp_goto (tgt := 186) dX1_minds_182 (by decide) ?_
              refine wp_zret rfl (by omega) dX1_minds_186 ?_
              refine kt ?_ M1 hG hR1
              unfold mindsA
              rw [if_neg (by omega), show A.2 0 x.toNat = M 3 x.toNat from (ar 0 x.toNat (by omega) (by omega)).symm, show A.2 1 x.toNat = M 4 x.toNat from (ar 1 x.toNat (by omega) (by omega)).symm, show A.2 2 x.toNat = M 5 x.toNat from (ar 2 x.toNat (by omega) (by omega)).symm, show A.2 3 y.toNat = M 6 y.toNat from (ar 3 y.toNat (by omega) (by omega)).symm, show A.2 1 y.toNat = M 4 y.toNat from (ar 1 y.toNat (by omega) (by omega)).symm, ← a1, show nmA A true x y = nmv M 2 true x y from funext fun c => (nm_eq hA (by omega) (fun _ => by omega)).symm]
              unfold mndF
              (repeat' split) <;> first | rfl | omega | (simp only [decide_eq_true_eq, decide_eq_false_iff_not]; omega)
            by_cases h76_4 : (M 3 x.toNat) = 5
            · refine wp_tabIn dX1_minds_76 4 (by omega) (by decide) rfl (tgt := 187) (by decide) ?_
              refine wp_iconst dX1_minds_187 (by decide) ?_
              refine wp_zret rfl (by omega) dX1_minds_188 ?_
              refine kt ?_ M1 hG hR1
              unfold mindsA
              rw [if_neg (by omega), show A.2 0 x.toNat = M 3 x.toNat from (ar 0 x.toNat (by omega) (by omega)).symm, show A.2 1 x.toNat = M 4 x.toNat from (ar 1 x.toNat (by omega) (by omega)).symm, show A.2 2 x.toNat = M 5 x.toNat from (ar 2 x.toNat (by omega) (by omega)).symm, show A.2 3 y.toNat = M 6 y.toNat from (ar 3 y.toNat (by omega) (by omega)).symm, show A.2 1 y.toNat = M 4 y.toNat from (ar 1 y.toNat (by omega) (by omega)).symm, ← a1, show nmA A true x y = nmv M 2 true x y from funext fun c => (nm_eq hA (by omega) (fun _ => by omega)).symm]
              unfold mndF
              (repeat' split) <;> first | rfl | omega | (simp only [decide_eq_true_eq, decide_eq_false_iff_not]; omega)
            refine wp_tabOut dX1_minds_76 (by omega) (tgt := 189) (by decide) ?_
            refine wp_iload dX1_minds_189 rfl ?_
            refine wp_zret rfl (by omega) dX1_minds_191 ?_
            refine kt ?_ M1 hG hR1
            unfold mindsA
            rw [if_neg (by omega), show A.2 0 x.toNat = M 3 x.toNat from (ar 0 x.toNat (by omega) (by omega)).symm, show A.2 1 x.toNat = M 4 x.toNat from (ar 1 x.toNat (by omega) (by omega)).symm, show A.2 2 x.toNat = M 5 x.toNat from (ar 2 x.toNat (by omega) (by omega)).symm, show A.2 3 y.toNat = M 6 y.toNat from (ar 3 y.toNat (by omega) (by omega)).symm, show A.2 1 y.toNat = M 4 y.toNat from (ar 1 y.toNat (by omega) (by omega)).symm, ← a1, show nmA A true x y = nmv M 2 true x y from funext fun c => (nm_eq hA (by omega) (fun _ => by omega)).symm]
            unfold mndF
            (repeat' split) <;> first | rfl | omega | (simp only [decide_eq_true_eq, decide_eq_false_iff_not]; omega)
      · refine wp_iconst dX1_minds_21 (by decide) ?_
        refine wp_zret rfl (by omega) dX1_minds_22 ?_
        exact kt (by unfold mindsA; rw [if_pos (by omega)]) M Fr.rf hR
    · refine wp_if_eq (tgt := 21) dX1_minds_13 (by decide) (fun _ => ?_) (fun h => absurd h (by decide))
      refine wp_iconst dX1_minds_21 (by decide) ?_
      refine wp_zret rfl (by omega) dX1_minds_22 ?_
      exact kt (by unfold mindsA; rw [if_pos (by omega)]) M Fr.rf hR
  · refine wp_if_eq (tgt := 21) dX1_minds_5 (by decide) (fun _ => ?_) (fun h => absurd h (by decide))
    refine wp_iconst dX1_minds_21 (by decide) ?_
    refine wp_zret rfl (by omega) dX1_minds_22 ?_
    exact kt (by unfold mindsA; rw [if_pos (by omega)]) M Fr.rf hR
set_option maxRecDepth 20000 in
set_option maxHeartbeats 4000000 in
theorem sp_minds_16 {l : Launch} {g : Gw} {d n : Nat} {M : Mm} {Q : Option Wd → Mm → Prop} (hn : 60 ≤ n) (hd : 4 ≤ d) (hR : SR M) (hX : txOK M) {A : Ls} (hA : Rc M 16 A) (hW : Wf A) (hr : 0 ≤ A.1 1 ∧ A.1 1 < M 25 1) (x y : Int) (kt : mindsA (evC M) A x y = true → ∀ M', Fr VX M M' → SR M' → Q (some (0, 1)) M') (kf : mindsA (evC M) A x y = false → ∀ M', Fr VX M M' → SR M' → Q (some (0, 0)) M') : Wp l g d 0 0 n m_X1_minds 0 [] [(2, 51), (2, 16), (0, x), (0, y), (9, 0), (9, 0)] M Q := by
  obtain ⟨a0, a1, a2, a3, ar, al⟩ := id hA
  obtain ⟨w0, w1, w2, w3, w4, w5, w6⟩ := id hW
  have hX1 := hX.1
  have hX2 := hX.2.1
  refine wp_aload_n dX1_minds_0 rfl rfl ?_
  refine wp_iload_n dX1_minds_1 rfl rfl ?_
  refine wp_callV0 (d' := d - 1) cv_RX1_19 16 rfl [(0, x)] [] rfl rfl (Or.inl ⟨_, _, rfl, by decide, rfl, by omega, by omega⟩) (by omega) (Nat.le_of_ble_eq_true rfl) dX1_minds_2 rfl (Nat.le_of_ble_eq_true rfl) (by omega) (loc1 := [(2, 16), (0, x)]) rfl ?_
  refine sp_has_16 hn x (fun h2 => ?_) (fun h2 => ?_)
  · refine wp_if_eq (tgt := 21) dX1_minds_5 (by decide) (fun h => absurd h (by decide)) (fun _ => ?_)
    refine wp_aload_n dX1_minds_8 rfl rfl ?_
    refine wp_iload_n dX1_minds_9 rfl rfl ?_
    refine wp_callV0 (d' := d - 1) cv_RX1_19 16 rfl [(0, y)] [] rfl rfl (Or.inl ⟨_, _, rfl, by decide, rfl, by omega, by omega⟩) (by omega) (Nat.le_of_ble_eq_true rfl) dX1_minds_10 rfl (Nat.le_of_ble_eq_true rfl) (by omega) (loc1 := [(2, 16), (0, y)]) rfl ?_
    refine sp_has_16 hn y (fun h10 => ?_) (fun h10 => ?_)
    · refine wp_if_eq (tgt := 21) dX1_minds_13 (by decide) (fun h => absurd h (by decide)) (fun _ => ?_)
      refine wp_iload_n dX1_minds_16 rfl rfl ?_
      refine wp_iload_n dX1_minds_17 rfl rfl ?_
      refine wp_icmp_ne (tgt := 23) dX1_minds_18 (by decide) (fun h18 => ?_) (fun h18 => ?_)
      · refine wp_aload_n dX1_minds_23 rfl rfl ?_
        refine wp_get 51 rfl fl_RX1_9 rfl ⟨by omega, by omega⟩ dX1_minds_24 rfl (v := 25) (sr_51_0 (M := M) hR) ?_
        refine wp_aload_n dX1_minds_27 rfl rfl ?_
        refine wp_callV0 (d' := d - 1) cv_RX1_25 25 rfl [(2, 16)] [] rfl rfl (Or.inl ⟨_, _, rfl, by decide, rfl, by omega, by omega⟩) (by omega) (Nat.le_of_ble_eq_true rfl) dX1_minds_28 rfl (Nat.le_of_ble_eq_true rfl) (by omega) (loc1 := [(2, 25), (2, 16)]) rfl ?_
        refine sp_ruleOf_16 hn (by omega) hR (by omega) (by omega) (by omega) (fun T hT eT => ?_)
        have hb := hT.b
        refine wp_iconst dX1_minds_31 (by decide) ?_
        refine wp_aload_n dX1_minds_32 rfl rfl ?_
        refine wp_iload_n dX1_minds_33 rfl rfl ?_
        refine wp_iload_n dX1_minds_34 rfl rfl ?_
        refine wp_callV0 (d' := d - 1) cv_RX1_33 T rfl [(0, 0), (2, 16), (0, x), (0, y)] [] rfl rfl (Or.inl ⟨_, _, hT.k0, by decide, rfl, by omega, by omega⟩) (by omega) (Nat.le_of_ble_eq_true rfl) dX1_minds_35 rfl (Nat.le_of_ble_eq_true rfl) (by omega) (loc1 := [(2, (T : Int)), (0, 0), (2, 16), (0, x), (0, y), (9, 0), (9, 0), (9, 0)]) rfl ?_
        obtain ⟨t0, t1, t2, t3⟩ := hX.2.2 (M 16 1).toNat (by omega)
        rw [← eT] at t0 t1 t2 t3
        refine sp_worth_16_0 hT hn hR (by omega) x y (by omega) (by omega) (by omega) (M (T + 2) 0).toNat (by omega) (by omega) (fun M1 hF1 hR1 => ?_)
        rw [show (run (M (T + 1)) (nmv M 16 true x y) (M (T + 2) 0).toNat 0 []).headD 0 = (evC M (M 16 1).toNat 0 (nmv M 16 true x y)) by rw [eT]; exact (if_neg (show ¬ 6 ≤ (M 16 1).toNat by omega)).symm]
        have hG := hF1.mono (fun i j h => VT.vx hT h)
        refine wp_if_eq (tgt := 45) dX1_minds_38 (by decide) (fun h38 => ?_) (fun h38 => ?_)
        · refine wp_iconst dX1_minds_45 (by decide) ?_
          refine wp_istore (loc' := [(2, 51), (2, 16), (0, x), (0, y), (0, 0), (9, 0)]) dX1_minds_46 (Nat.le_of_ble_eq_true rfl) rfl ?_
          refine wp_aload_n dX1_minds_48 rfl rfl ?_
          refine wp_aload_n dX1_minds_49 rfl rfl ?_
          refine wp_get 16 rfl fl_RX1_37 rfl ⟨by omega, by omega⟩ dX1_minds_50 rfl (v := 20) (sr_16_7 (M := M1) hR1) ?_
          refine wp_iload_n dX1_minds_53 rfl rfl ?_
          refine wp_callV0 (d' := d - 1) cv_RX1_40 16 rfl [(2, 20), (0, y)] [] rfl rfl (Or.inl ⟨_, _, rfl, by decide, rfl, by omega, by omega⟩) (by omega) (Nat.le_of_ble_eq_true rfl) dX1_minds_54 rfl (Nat.le_of_ble_eq_true rfl) (by omega) (loc1 := [(2, 16), (2, 20), (0, y)]) rfl ?_
          refine sp_of_gifts_16 hn hR1 y (by rw [hG 16 2 (by unfold VX; omega)]; omega) ?_
          rw [hG 20 y.toNat (by unfold VX; omega)]
          refine wp_if_ne (tgt := 64) dX1_minds_57 (by decide) (fun h57 => ?_) (fun h57 => ?_)
          · refine wp_iconst dX1_minds_64 (by decide) ?_
            refine wp_istore (loc' := [(2, 51), (2, 16), (0, x), (0, y), (0, 0), (0, 0)]) dX1_minds_65 (Nat.le_of_ble_eq_true rfl) rfl ?_
            refine wp_aload_n dX1_minds_67 rfl rfl ?_
            refine wp_aload_n dX1_minds_68 rfl rfl ?_
            refine wp_get 16 rfl fl_RX1_44 rfl ⟨by omega, by omega⟩ dX1_minds_69 rfl (v := 17) (sr_16_4 (M := M1) hR1) ?_
            refine wp_iload_n dX1_minds_72 rfl rfl ?_
            refine wp_callV0 (d' := d - 1) cv_RX1_40 16 rfl [(2, 17), (0, x)] [] rfl rfl (Or.inl ⟨_, _, rfl, by decide, rfl, by omega, by omega⟩) (by omega) (Nat.le_of_ble_eq_true rfl) dX1_minds_73 rfl (Nat.le_of_ble_eq_true rfl) (by omega) (loc1 := [(2, 16), (2, 17), (0, x)]) rfl ?_
            refine sp_of_kind_16 hn hR1 x (by rw [hG 16 2 (by unfold VX; omega)]; omega) ?_
            rw [hG 17 x.toNat (by unfold VX; omega)]
            by_cases h76_0 : (M 17 x.toNat) = 1
            · refine wp_tabIn dX1_minds_76 0 (by omega) (by decide) rfl (tgt := 112) (by decide) ?_
              refine wp_iload dX1_minds_112 rfl ?_
              refine wp_if_eq (tgt := 130) dX1_minds_114 (by decide) (fun _ => ?_) (fun h => absurd h (by decide))
              refine wp_iconst dX1_minds_130 (by decide) ?_
              refine wp_zret rfl (by omega) dX1_minds_131 ?_
              refine kf ?_ M1 hG hR1
              unfold mindsA
              rw [if_neg (by omega), show A.2 0 x.toNat = M 17 x.toNat from (ar 0 x.toNat (by omega) (by omega)).symm, show A.2 1 x.toNat = M 18 x.toNat from (ar 1 x.toNat (by omega) (by omega)).symm, show A.2 2 x.toNat = M 19 x.toNat from (ar 2 x.toNat (by omega) (by omega)).symm, show A.2 3 y.toNat = M 20 y.toNat from (ar 3 y.toNat (by omega) (by omega)).symm, show A.2 1 y.toNat = M 18 y.toNat from (ar 1 y.toNat (by omega) (by omega)).symm, ← a1, show nmA A true x y = nmv M 16 true x y from funext fun c => (nm_eq hA (by omega) (fun _ => by omega)).symm]
              unfold mndF
              (repeat' split) <;> first | rfl | omega | (simp only [decide_eq_true_eq, decide_eq_false_iff_not]; omega)
            by_cases h76_1 : (M 17 x.toNat) = 2
            · refine wp_tabIn dX1_minds_76 1 (by omega) (by decide) rfl (tgt := 132) (by decide) ?_
              refine wp_iload dX1_minds_132 rfl ?_
              refine wp_if_ne (tgt := 142) dX1_minds_134 (by decide) (fun h => absurd h (by decide)) (fun _ => ?_)
              refine wp_iload dX1_minds_137 rfl ?_
              refine wp_if_eq (tgt := 146) dX1_minds_139 (by decide) (fun _ => ?_) (fun h => absurd h (by decide))
              refine wp_iconst dX1_minds_146 (by decide) ?_
              refine wp_zret rfl (by omega) dX1_minds_147 ?_
              refine kf ?_ M1 hG hR1
              unfold mindsA
              rw [if_neg (by omega), show A.2 0 x.toNat = M 17 x.toNat from (ar 0 x.toNat (by omega) (by omega)).symm, show A.2 1 x.toNat = M 18 x.toNat from (ar 1 x.toNat (by omega) (by omega)).symm, show A.2 2 x.toNat = M 19 x.toNat from (ar 2 x.toNat (by omega) (by omega)).symm, show A.2 3 y.toNat = M 20 y.toNat from (ar 3 y.toNat (by omega) (by omega)).symm, show A.2 1 y.toNat = M 18 y.toNat from (ar 1 y.toNat (by omega) (by omega)).symm, ← a1, show nmA A true x y = nmv M 16 true x y from funext fun c => (nm_eq hA (by omega) (fun _ => by omega)).symm]
              unfold mndF
              (repeat' split) <;> first | rfl | omega | (simp only [decide_eq_true_eq, decide_eq_false_iff_not]; omega)
            by_cases h76_2 : (M 17 x.toNat) = 3
            · refine wp_tabIn dX1_minds_76 2 (by omega) (by decide) rfl (tgt := 148) (by decide) ?_
              refine wp_iconst dX1_minds_148 (by decide) ?_
              refine wp_zret rfl (by omega) dX1_minds_149 ?_
              refine kf ?_ M1 hG hR1
              unfold mindsA
              rw [if_neg (by omega), show A.2 0 x.toNat = M 17 x.toNat from (ar 0 x.toNat (by omega) (by omega)).symm, show A.2 1 x.toNat = M 18 x.toNat from (ar 1 x.toNat (by omega) (by omega)).symm, show A.2 2 x.toNat = M 19 x.toNat from (ar 2 x.toNat (by omega) (by omega)).symm, show A.2 3 y.toNat = M 20 y.toNat from (ar 3 y.toNat (by omega) (by omega)).symm, show A.2 1 y.toNat = M 18 y.toNat from (ar 1 y.toNat (by omega) (by omega)).symm, ← a1, show nmA A true x y = nmv M 16 true x y from funext fun c => (nm_eq hA (by omega) (fun _ => by omega)).symm]
              unfold mndF
              (repeat' split) <;> first | rfl | omega | (simp only [decide_eq_true_eq, decide_eq_false_iff_not]; omega)
            by_cases h76_3 : (M 17 x.toNat) = 4
            · refine wp_tabIn dX1_minds_76 3 (by omega) (by decide) rfl (tgt := 150) (by decide) ?_
              refine wp_iload dX1_minds_150 rfl ?_
              refine wp_if_ne (tgt := 181) dX1_minds_152 (by decide) (fun h => absurd h (by decide)) (fun _ => ?_)
              refine wp_iload dX1_minds_155 rfl ?_
              refine wp_if_ne (tgt := 181) dX1_minds_157 (by decide) (fun h => absurd h (by decide)) (fun _ => ?_)
              refine wp_aload_n dX1_minds_160 rfl rfl ?_
              refine wp_aload_n dX1_minds_161 rfl rfl ?_
              refine wp_get 16 rfl fl_RX1_51 rfl ⟨by omega, by omega⟩ dX1_minds_162 rfl (v := 18) (sr_16_5 (M := M1) hR1) ?_
              refine wp_iload_n dX1_minds_165 rfl rfl ?_
              refine wp_callV0 (d' := d - 1) cv_RX1_40 16 rfl [(2, 18), (0, y)] [] rfl rfl (Or.inl ⟨_, _, rfl, by decide, rfl, by omega, by omega⟩) (by omega) (Nat.le_of_ble_eq_true rfl) dX1_minds_166 rfl (Nat.le_of_ble_eq_true rfl) (by omega) (loc1 := [(2, 16), (2, 18), (0, y)]) rfl ?_
              refine sp_of_number_16 hn hR1 y (by rw [hG 16 2 (by unfold VX; omega)]; omega) ?_
              rw [hG 18 y.toNat (by unfold VX; omega)]
              refine wp_aload_n dX1_minds_169 rfl rfl ?_
              refine wp_aload_n dX1_minds_170 rfl rfl ?_
              refine wp_get 16 rfl fl_RX1_51 rfl ⟨by omega, by omega⟩ dX1_minds_171 rfl (v := 18) (sr_16_5 (M := M1) hR1) ?_
              refine wp_iload_n dX1_minds_174 rfl rfl ?_
              refine wp_callV0 (d' := d - 1) cv_RX1_40 16 rfl [(2, 18), (0, x)] [(0, (M 18 y.toNat))] rfl rfl (Or.inl ⟨_, _, rfl, by decide, rfl, by omega, by omega⟩) (by omega) (Nat.le_of_ble_eq_true rfl) dX1_minds_175 rfl (Nat.le_of_ble_eq_true rfl) (by omega) (loc1 := [(2, 16), (2, 18), (0, x)]) rfl ?_
              refine sp_of_number_16 hn hR1 x (by rw [hG 16 2 (by unfold VX; omega)]; omega) ?_
              rw [hG 18 x.toNat (by unfold VX; omega)]
              refine wp_icmp_ge (tgt := 185) dX1_minds_178 (by decide) (fun h178 => ?_) (fun h178 => ?_)
              · refine wp_iconst dX1_minds_185 (by decide) ?_
                refine wp_zret rfl (by omega) dX1_minds_186 ?_
                refine kf ?_ M1 hG hR1
                unfold mindsA
                rw [if_neg (by omega), show A.2 0 x.toNat = M 17 x.toNat from (ar 0 x.toNat (by omega) (by omega)).symm, show A.2 1 x.toNat = M 18 x.toNat from (ar 1 x.toNat (by omega) (by omega)).symm, show A.2 2 x.toNat = M 19 x.toNat from (ar 2 x.toNat (by omega) (by omega)).symm, show A.2 3 y.toNat = M 20 y.toNat from (ar 3 y.toNat (by omega) (by omega)).symm, show A.2 1 y.toNat = M 18 y.toNat from (ar 1 y.toNat (by omega) (by omega)).symm, ← a1, show nmA A true x y = nmv M 16 true x y from funext fun c => (nm_eq hA (by omega) (fun _ => by omega)).symm]
                unfold mndF
                (repeat' split) <;> first | rfl | omega | (simp only [decide_eq_true_eq, decide_eq_false_iff_not]; omega)
              · refine wp_iconst dX1_minds_181 (by decide) ?_
                refine wp_goto (tgt := 186) dX1_minds_182 (by decide) ?_
                refine wp_zret rfl (by omega) dX1_minds_186 ?_
                refine kt ?_ M1 hG hR1
                unfold mindsA
                rw [if_neg (by omega), show A.2 0 x.toNat = M 17 x.toNat from (ar 0 x.toNat (by omega) (by omega)).symm, show A.2 1 x.toNat = M 18 x.toNat from (ar 1 x.toNat (by omega) (by omega)).symm, show A.2 2 x.toNat = M 19 x.toNat from (ar 2 x.toNat (by omega) (by omega)).symm, show A.2 3 y.toNat = M 20 y.toNat from (ar 3 y.toNat (by omega) (by omega)).symm, show A.2 1 y.toNat = M 18 y.toNat from (ar 1 y.toNat (by omega) (by omega)).symm, ← a1, show nmA A true x y = nmv M 16 true x y from funext fun c => (nm_eq hA (by omega) (fun _ => by omega)).symm]
                unfold mndF
                (repeat' split) <;> first | rfl | omega | (simp only [decide_eq_true_eq, decide_eq_false_iff_not]; omega)
            by_cases h76_4 : (M 17 x.toNat) = 5
            · refine wp_tabIn dX1_minds_76 4 (by omega) (by decide) rfl (tgt := 187) (by decide) ?_
              refine wp_iconst dX1_minds_187 (by decide) ?_
              refine wp_zret rfl (by omega) dX1_minds_188 ?_
              refine kt ?_ M1 hG hR1
              unfold mindsA
              rw [if_neg (by omega), show A.2 0 x.toNat = M 17 x.toNat from (ar 0 x.toNat (by omega) (by omega)).symm, show A.2 1 x.toNat = M 18 x.toNat from (ar 1 x.toNat (by omega) (by omega)).symm, show A.2 2 x.toNat = M 19 x.toNat from (ar 2 x.toNat (by omega) (by omega)).symm, show A.2 3 y.toNat = M 20 y.toNat from (ar 3 y.toNat (by omega) (by omega)).symm, show A.2 1 y.toNat = M 18 y.toNat from (ar 1 y.toNat (by omega) (by omega)).symm, ← a1, show nmA A true x y = nmv M 16 true x y from funext fun c => (nm_eq hA (by omega) (fun _ => by omega)).symm]
              unfold mndF
              (repeat' split) <;> first | rfl | omega | (simp only [decide_eq_true_eq, decide_eq_false_iff_not]; omega)
            refine wp_tabOut dX1_minds_76 (by omega) (tgt := 189) (by decide) ?_
            refine wp_iload dX1_minds_189 rfl ?_
            refine wp_zret rfl (by omega) dX1_minds_191 ?_
            refine kf ?_ M1 hG hR1
            unfold mindsA
            rw [if_neg (by omega), show A.2 0 x.toNat = M 17 x.toNat from (ar 0 x.toNat (by omega) (by omega)).symm, show A.2 1 x.toNat = M 18 x.toNat from (ar 1 x.toNat (by omega) (by omega)).symm, show A.2 2 x.toNat = M 19 x.toNat from (ar 2 x.toNat (by omega) (by omega)).symm, show A.2 3 y.toNat = M 20 y.toNat from (ar 3 y.toNat (by omega) (by omega)).symm, show A.2 1 y.toNat = M 18 y.toNat from (ar 1 y.toNat (by omega) (by omega)).symm, ← a1, show nmA A true x y = nmv M 16 true x y from funext fun c => (nm_eq hA (by omega) (fun _ => by omega)).symm]
            unfold mndF
            (repeat' split) <;> first | rfl | omega | (simp only [decide_eq_true_eq, decide_eq_false_iff_not]; omega)
          · refine wp_iconst dX1_minds_60 (by decide) ?_
            refine wp_goto (tgt := 65) dX1_minds_61 (by decide) ?_
            refine wp_istore (loc' := [(2, 51), (2, 16), (0, x), (0, y), (0, 0), (0, 1)]) dX1_minds_65 (Nat.le_of_ble_eq_true rfl) rfl ?_
            refine wp_aload_n dX1_minds_67 rfl rfl ?_
            refine wp_aload_n dX1_minds_68 rfl rfl ?_
            refine wp_get 16 rfl fl_RX1_44 rfl ⟨by omega, by omega⟩ dX1_minds_69 rfl (v := 17) (sr_16_4 (M := M1) hR1) ?_
            refine wp_iload_n dX1_minds_72 rfl rfl ?_
            refine wp_callV0 (d' := d - 1) cv_RX1_40 16 rfl [(2, 17), (0, x)] [] rfl rfl (Or.inl ⟨_, _, rfl, by decide, rfl, by omega, by omega⟩) (by omega) (Nat.le_of_ble_eq_true rfl) dX1_minds_73 rfl (Nat.le_of_ble_eq_true rfl) (by omega) (loc1 := [(2, 16), (2, 17), (0, x)]) rfl ?_
            refine sp_of_kind_16 hn hR1 x (by rw [hG 16 2 (by unfold VX; omega)]; omega) ?_
            rw [hG 17 x.toNat (by unfold VX; omega)]
            by_cases h76_0 : (M 17 x.toNat) = 1
            · refine wp_tabIn dX1_minds_76 0 (by omega) (by decide) rfl (tgt := 112) (by decide) ?_
              refine wp_iload dX1_minds_112 rfl ?_
              refine wp_if_eq (tgt := 130) dX1_minds_114 (by decide) (fun _ => ?_) (fun h => absurd h (by decide))
              refine wp_iconst dX1_minds_130 (by decide) ?_
              refine wp_zret rfl (by omega) dX1_minds_131 ?_
              refine kf ?_ M1 hG hR1
              unfold mindsA
              rw [if_neg (by omega), show A.2 0 x.toNat = M 17 x.toNat from (ar 0 x.toNat (by omega) (by omega)).symm, show A.2 1 x.toNat = M 18 x.toNat from (ar 1 x.toNat (by omega) (by omega)).symm, show A.2 2 x.toNat = M 19 x.toNat from (ar 2 x.toNat (by omega) (by omega)).symm, show A.2 3 y.toNat = M 20 y.toNat from (ar 3 y.toNat (by omega) (by omega)).symm, show A.2 1 y.toNat = M 18 y.toNat from (ar 1 y.toNat (by omega) (by omega)).symm, ← a1, show nmA A true x y = nmv M 16 true x y from funext fun c => (nm_eq hA (by omega) (fun _ => by omega)).symm]
              unfold mndF
              (repeat' split) <;> first | rfl | omega | (simp only [decide_eq_true_eq, decide_eq_false_iff_not]; omega)
            by_cases h76_1 : (M 17 x.toNat) = 2
            · refine wp_tabIn dX1_minds_76 1 (by omega) (by decide) rfl (tgt := 132) (by decide) ?_
              refine wp_iload dX1_minds_132 rfl ?_
              refine wp_if_ne (tgt := 142) dX1_minds_134 (by decide) (fun h => absurd h (by decide)) (fun _ => ?_)
              refine wp_iload dX1_minds_137 rfl ?_
              refine wp_if_eq (tgt := 146) dX1_minds_139 (by decide) (fun h => absurd h (by decide)) (fun _ => ?_)
              refine wp_iconst dX1_minds_142 (by decide) ?_
              refine wp_goto (tgt := 147) dX1_minds_143 (by decide) ?_
              refine wp_zret rfl (by omega) dX1_minds_147 ?_
              refine kt ?_ M1 hG hR1
              unfold mindsA
              rw [if_neg (by omega), show A.2 0 x.toNat = M 17 x.toNat from (ar 0 x.toNat (by omega) (by omega)).symm, show A.2 1 x.toNat = M 18 x.toNat from (ar 1 x.toNat (by omega) (by omega)).symm, show A.2 2 x.toNat = M 19 x.toNat from (ar 2 x.toNat (by omega) (by omega)).symm, show A.2 3 y.toNat = M 20 y.toNat from (ar 3 y.toNat (by omega) (by omega)).symm, show A.2 1 y.toNat = M 18 y.toNat from (ar 1 y.toNat (by omega) (by omega)).symm, ← a1, show nmA A true x y = nmv M 16 true x y from funext fun c => (nm_eq hA (by omega) (fun _ => by omega)).symm]
              unfold mndF
              (repeat' split) <;> first | rfl | omega | (simp only [decide_eq_true_eq, decide_eq_false_iff_not]; omega)
            by_cases h76_2 : (M 17 x.toNat) = 3
            · refine wp_tabIn dX1_minds_76 2 (by omega) (by decide) rfl (tgt := 148) (by decide) ?_
              refine wp_iconst dX1_minds_148 (by decide) ?_
              refine wp_zret rfl (by omega) dX1_minds_149 ?_
              refine kf ?_ M1 hG hR1
              unfold mindsA
              rw [if_neg (by omega), show A.2 0 x.toNat = M 17 x.toNat from (ar 0 x.toNat (by omega) (by omega)).symm, show A.2 1 x.toNat = M 18 x.toNat from (ar 1 x.toNat (by omega) (by omega)).symm, show A.2 2 x.toNat = M 19 x.toNat from (ar 2 x.toNat (by omega) (by omega)).symm, show A.2 3 y.toNat = M 20 y.toNat from (ar 3 y.toNat (by omega) (by omega)).symm, show A.2 1 y.toNat = M 18 y.toNat from (ar 1 y.toNat (by omega) (by omega)).symm, ← a1, show nmA A true x y = nmv M 16 true x y from funext fun c => (nm_eq hA (by omega) (fun _ => by omega)).symm]
              unfold mndF
              (repeat' split) <;> first | rfl | omega | (simp only [decide_eq_true_eq, decide_eq_false_iff_not]; omega)
            by_cases h76_3 : (M 17 x.toNat) = 4
            · refine wp_tabIn dX1_minds_76 3 (by omega) (by decide) rfl (tgt := 150) (by decide) ?_
              refine wp_iload dX1_minds_150 rfl ?_
              refine wp_if_ne (tgt := 181) dX1_minds_152 (by decide) (fun h => absurd h (by decide)) (fun _ => ?_)
              refine wp_iload dX1_minds_155 rfl ?_
              refine wp_if_ne (tgt := 181) dX1_minds_157 (by decide) (fun _ => ?_) (fun h => absurd h (by decide))
              refine wp_iconst dX1_minds_181 (by decide) ?_
              refine wp_goto (tgt := 186) dX1_minds_182 (by decide) ?_
              refine wp_zret rfl (by omega) dX1_minds_186 ?_
              refine kt ?_ M1 hG hR1
              unfold mindsA
              rw [if_neg (by omega), show A.2 0 x.toNat = M 17 x.toNat from (ar 0 x.toNat (by omega) (by omega)).symm, show A.2 1 x.toNat = M 18 x.toNat from (ar 1 x.toNat (by omega) (by omega)).symm, show A.2 2 x.toNat = M 19 x.toNat from (ar 2 x.toNat (by omega) (by omega)).symm, show A.2 3 y.toNat = M 20 y.toNat from (ar 3 y.toNat (by omega) (by omega)).symm, show A.2 1 y.toNat = M 18 y.toNat from (ar 1 y.toNat (by omega) (by omega)).symm, ← a1, show nmA A true x y = nmv M 16 true x y from funext fun c => (nm_eq hA (by omega) (fun _ => by omega)).symm]
              unfold mndF
              (repeat' split) <;> first | rfl | omega | (simp only [decide_eq_true_eq, decide_eq_false_iff_not]; omega)
            by_cases h76_4 : (M 17 x.toNat) = 5
            · refine wp_tabIn dX1_minds_76 4 (by omega) (by decide) rfl (tgt := 187) (by decide) ?_
              refine wp_iconst dX1_minds_187 (by decide) ?_
              refine wp_zret rfl (by omega) dX1_minds_188 ?_
              refine kt ?_ M1 hG hR1
              unfold mindsA
              rw [if_neg (by omega), show A.2 0 x.toNat = M 17 x.toNat from (ar 0 x.toNat (by omega) (by omega)).symm, show A.2 1 x.toNat = M 18 x.toNat from (ar 1 x.toNat (by omega) (by omega)).symm, show A.2 2 x.toNat = M 19 x.toNat from (ar 2 x.toNat (by omega) (by omega)).symm, show A.2 3 y.toNat = M 20 y.toNat from (ar 3 y.toNat (by omega) (by omega)).symm, show A.2 1 y.toNat = M 18 y.toNat from (ar 1 y.toNat (by omega) (by omega)).symm, ← a1, show nmA A true x y = nmv M 16 true x y from funext fun c => (nm_eq hA (by omega) (fun _ => by omega)).symm]
              unfold mndF
              (repeat' split) <;> first | rfl | omega | (simp only [decide_eq_true_eq, decide_eq_false_iff_not]; omega)
            refine wp_tabOut dX1_minds_76 (by omega) (tgt := 189) (by decide) ?_
            refine wp_iload dX1_minds_189 rfl ?_
            refine wp_zret rfl (by omega) dX1_minds_191 ?_
            refine kf ?_ M1 hG hR1
            unfold mindsA
            rw [if_neg (by omega), show A.2 0 x.toNat = M 17 x.toNat from (ar 0 x.toNat (by omega) (by omega)).symm, show A.2 1 x.toNat = M 18 x.toNat from (ar 1 x.toNat (by omega) (by omega)).symm, show A.2 2 x.toNat = M 19 x.toNat from (ar 2 x.toNat (by omega) (by omega)).symm, show A.2 3 y.toNat = M 20 y.toNat from (ar 3 y.toNat (by omega) (by omega)).symm, show A.2 1 y.toNat = M 18 y.toNat from (ar 1 y.toNat (by omega) (by omega)).symm, ← a1, show nmA A true x y = nmv M 16 true x y from funext fun c => (nm_eq hA (by omega) (fun _ => by omega)).symm]
            unfold mndF
            (repeat' split) <;> first | rfl | omega | (simp only [decide_eq_true_eq, decide_eq_false_iff_not]; omega)
        · refine wp_iconst dX1_minds_41 (by decide) ?_
          refine wp_goto (tgt := 46) dX1_minds_42 (by decide) ?_
          refine wp_istore (loc' := [(2, 51), (2, 16), (0, x), (0, y), (0, 1), (9, 0)]) dX1_minds_46 (Nat.le_of_ble_eq_true rfl) rfl ?_
          refine wp_aload_n dX1_minds_48 rfl rfl ?_
          refine wp_aload_n dX1_minds_49 rfl rfl ?_
          refine wp_get 16 rfl fl_RX1_37 rfl ⟨by omega, by omega⟩ dX1_minds_50 rfl (v := 20) (sr_16_7 (M := M1) hR1) ?_
          refine wp_iload_n dX1_minds_53 rfl rfl ?_
          refine wp_callV0 (d' := d - 1) cv_RX1_40 16 rfl [(2, 20), (0, y)] [] rfl rfl (Or.inl ⟨_, _, rfl, by decide, rfl, by omega, by omega⟩) (by omega) (Nat.le_of_ble_eq_true rfl) dX1_minds_54 rfl (Nat.le_of_ble_eq_true rfl) (by omega) (loc1 := [(2, 16), (2, 20), (0, y)]) rfl ?_
          refine sp_of_gifts_16 hn hR1 y (by rw [hG 16 2 (by unfold VX; omega)]; omega) ?_
          rw [hG 20 y.toNat (by unfold VX; omega)]
          refine wp_if_ne (tgt := 64) dX1_minds_57 (by decide) (fun h57 => ?_) (fun h57 => ?_)
          · refine wp_iconst dX1_minds_64 (by decide) ?_
            refine wp_istore (loc' := [(2, 51), (2, 16), (0, x), (0, y), (0, 1), (0, 0)]) dX1_minds_65 (Nat.le_of_ble_eq_true rfl) rfl ?_
            refine wp_aload_n dX1_minds_67 rfl rfl ?_
            refine wp_aload_n dX1_minds_68 rfl rfl ?_
            refine wp_get 16 rfl fl_RX1_44 rfl ⟨by omega, by omega⟩ dX1_minds_69 rfl (v := 17) (sr_16_4 (M := M1) hR1) ?_
            refine wp_iload_n dX1_minds_72 rfl rfl ?_
            refine wp_callV0 (d' := d - 1) cv_RX1_40 16 rfl [(2, 17), (0, x)] [] rfl rfl (Or.inl ⟨_, _, rfl, by decide, rfl, by omega, by omega⟩) (by omega) (Nat.le_of_ble_eq_true rfl) dX1_minds_73 rfl (Nat.le_of_ble_eq_true rfl) (by omega) (loc1 := [(2, 16), (2, 17), (0, x)]) rfl ?_
            refine sp_of_kind_16 hn hR1 x (by rw [hG 16 2 (by unfold VX; omega)]; omega) ?_
            rw [hG 17 x.toNat (by unfold VX; omega)]
            by_cases h76_0 : (M 17 x.toNat) = 1
            · refine wp_tabIn dX1_minds_76 0 (by omega) (by decide) rfl (tgt := 112) (by decide) ?_
              refine wp_iload dX1_minds_112 rfl ?_
              refine wp_if_eq (tgt := 130) dX1_minds_114 (by decide) (fun h => absurd h (by decide)) (fun _ => ?_)
              refine wp_aload_n dX1_minds_117 rfl rfl ?_
              refine wp_iload_n dX1_minds_118 rfl rfl ?_
              refine wp_iload_n dX1_minds_119 rfl rfl ?_
              refine wp_callV0 (d' := d - 1) cv_RX1_47 16 rfl [(0, x), (0, y)] [] rfl rfl (Or.inl ⟨_, _, rfl, by decide, rfl, by omega, by omega⟩) (by omega) (Nat.le_of_ble_eq_true rfl) dX1_minds_120 rfl (Nat.le_of_ble_eq_true rfl) (by omega) (loc1 := [(2, 16), (0, x), (0, y)]) rfl ?_
              refine sp_likes_16 hn hR1 x y (by rw [hG 16 2 (by unfold VX; omega)]; omega) ?_
              rw [hG 19 x.toNat (by unfold VX; omega)]
              refine wp_if_ne (tgt := 130) dX1_minds_123 (by decide) (fun h123 => ?_) (fun h123 => ?_)
              · refine wp_iconst dX1_minds_130 (by decide) ?_
                refine wp_zret rfl (by omega) dX1_minds_131 ?_
                refine kf ?_ M1 hG hR1
                unfold mindsA
                rw [if_neg (by omega), show A.2 0 x.toNat = M 17 x.toNat from (ar 0 x.toNat (by omega) (by omega)).symm, show A.2 1 x.toNat = M 18 x.toNat from (ar 1 x.toNat (by omega) (by omega)).symm, show A.2 2 x.toNat = M 19 x.toNat from (ar 2 x.toNat (by omega) (by omega)).symm, show A.2 3 y.toNat = M 20 y.toNat from (ar 3 y.toNat (by omega) (by omega)).symm, show A.2 1 y.toNat = M 18 y.toNat from (ar 1 y.toNat (by omega) (by omega)).symm, ← a1, show nmA A true x y = nmv M 16 true x y from funext fun c => (nm_eq hA (by omega) (fun _ => by omega)).symm]
                unfold mndF
                (repeat' split) <;> first | rfl | omega | (simp only [decide_eq_true_eq, decide_eq_false_iff_not]; omega)
              · refine wp_iconst dX1_minds_126 (by decide) ?_
                refine wp_goto (tgt := 131) dX1_minds_127 (by decide) ?_
                refine wp_zret rfl (by omega) dX1_minds_131 ?_
                refine kt ?_ M1 hG hR1
                unfold mindsA
                rw [if_neg (by omega), show A.2 0 x.toNat = M 17 x.toNat from (ar 0 x.toNat (by omega) (by omega)).symm, show A.2 1 x.toNat = M 18 x.toNat from (ar 1 x.toNat (by omega) (by omega)).symm, show A.2 2 x.toNat = M 19 x.toNat from (ar 2 x.toNat (by omega) (by omega)).symm, show A.2 3 y.toNat = M 20 y.toNat from (ar 3 y.toNat (by omega) (by omega)).symm, show A.2 1 y.toNat = M 18 y.toNat from (ar 1 y.toNat (by omega) (by omega)).symm, ← a1, show nmA A true x y = nmv M 16 true x y from funext fun c => (nm_eq hA (by omega) (fun _ => by omega)).symm]
                unfold mndF
                (repeat' split) <;> first | rfl | omega | (simp only [decide_eq_true_eq, decide_eq_false_iff_not]; omega)
            by_cases h76_1 : (M 17 x.toNat) = 2
            · refine wp_tabIn dX1_minds_76 1 (by omega) (by decide) rfl (tgt := 132) (by decide) ?_
              refine wp_iload dX1_minds_132 rfl ?_
              refine wp_if_ne (tgt := 142) dX1_minds_134 (by decide) (fun _ => ?_) (fun h => absurd h (by decide))
              refine wp_iconst dX1_minds_142 (by decide) ?_
              refine wp_goto (tgt := 147) dX1_minds_143 (by decide) ?_
              refine wp_zret rfl (by omega) dX1_minds_147 ?_
              refine kt ?_ M1 hG hR1
              unfold mindsA
              rw [if_neg (by omega), show A.2 0 x.toNat = M 17 x.toNat from (ar 0 x.toNat (by omega) (by omega)).symm, show A.2 1 x.toNat = M 18 x.toNat from (ar 1 x.toNat (by omega) (by omega)).symm, show A.2 2 x.toNat = M 19 x.toNat from (ar 2 x.toNat (by omega) (by omega)).symm, show A.2 3 y.toNat = M 20 y.toNat from (ar 3 y.toNat (by omega) (by omega)).symm, show A.2 1 y.toNat = M 18 y.toNat from (ar 1 y.toNat (by omega) (by omega)).symm, ← a1, show nmA A true x y = nmv M 16 true x y from funext fun c => (nm_eq hA (by omega) (fun _ => by omega)).symm]
              unfold mndF
              (repeat' split) <;> first | rfl | omega | (simp only [decide_eq_true_eq, decide_eq_false_iff_not]; omega)
            by_cases h76_2 : (M 17 x.toNat) = 3
            · refine wp_tabIn dX1_minds_76 2 (by omega) (by decide) rfl (tgt := 148) (by decide) ?_
              refine wp_iconst dX1_minds_148 (by decide) ?_
              refine wp_zret rfl (by omega) dX1_minds_149 ?_
              refine kf ?_ M1 hG hR1
              unfold mindsA
              rw [if_neg (by omega), show A.2 0 x.toNat = M 17 x.toNat from (ar 0 x.toNat (by omega) (by omega)).symm, show A.2 1 x.toNat = M 18 x.toNat from (ar 1 x.toNat (by omega) (by omega)).symm, show A.2 2 x.toNat = M 19 x.toNat from (ar 2 x.toNat (by omega) (by omega)).symm, show A.2 3 y.toNat = M 20 y.toNat from (ar 3 y.toNat (by omega) (by omega)).symm, show A.2 1 y.toNat = M 18 y.toNat from (ar 1 y.toNat (by omega) (by omega)).symm, ← a1, show nmA A true x y = nmv M 16 true x y from funext fun c => (nm_eq hA (by omega) (fun _ => by omega)).symm]
              unfold mndF
              (repeat' split) <;> first | rfl | omega | (simp only [decide_eq_true_eq, decide_eq_false_iff_not]; omega)
            by_cases h76_3 : (M 17 x.toNat) = 4
            · refine wp_tabIn dX1_minds_76 3 (by omega) (by decide) rfl (tgt := 150) (by decide) ?_
              refine wp_iload dX1_minds_150 rfl ?_
              refine wp_if_ne (tgt := 181) dX1_minds_152 (by decide) (fun _ => ?_) (fun h => absurd h (by decide))
              refine wp_iconst dX1_minds_181 (by decide) ?_
              refine wp_goto (tgt := 186) dX1_minds_182 (by decide) ?_
              refine wp_zret rfl (by omega) dX1_minds_186 ?_
              refine kt ?_ M1 hG hR1
              unfold mindsA
              rw [if_neg (by omega), show A.2 0 x.toNat = M 17 x.toNat from (ar 0 x.toNat (by omega) (by omega)).symm, show A.2 1 x.toNat = M 18 x.toNat from (ar 1 x.toNat (by omega) (by omega)).symm, show A.2 2 x.toNat = M 19 x.toNat from (ar 2 x.toNat (by omega) (by omega)).symm, show A.2 3 y.toNat = M 20 y.toNat from (ar 3 y.toNat (by omega) (by omega)).symm, show A.2 1 y.toNat = M 18 y.toNat from (ar 1 y.toNat (by omega) (by omega)).symm, ← a1, show nmA A true x y = nmv M 16 true x y from funext fun c => (nm_eq hA (by omega) (fun _ => by omega)).symm]
              unfold mndF
              (repeat' split) <;> first | rfl | omega | (simp only [decide_eq_true_eq, decide_eq_false_iff_not]; omega)
            by_cases h76_4 : (M 17 x.toNat) = 5
            · refine wp_tabIn dX1_minds_76 4 (by omega) (by decide) rfl (tgt := 187) (by decide) ?_
              refine wp_iconst dX1_minds_187 (by decide) ?_
              refine wp_zret rfl (by omega) dX1_minds_188 ?_
              refine kt ?_ M1 hG hR1
              unfold mindsA
              rw [if_neg (by omega), show A.2 0 x.toNat = M 17 x.toNat from (ar 0 x.toNat (by omega) (by omega)).symm, show A.2 1 x.toNat = M 18 x.toNat from (ar 1 x.toNat (by omega) (by omega)).symm, show A.2 2 x.toNat = M 19 x.toNat from (ar 2 x.toNat (by omega) (by omega)).symm, show A.2 3 y.toNat = M 20 y.toNat from (ar 3 y.toNat (by omega) (by omega)).symm, show A.2 1 y.toNat = M 18 y.toNat from (ar 1 y.toNat (by omega) (by omega)).symm, ← a1, show nmA A true x y = nmv M 16 true x y from funext fun c => (nm_eq hA (by omega) (fun _ => by omega)).symm]
              unfold mndF
              (repeat' split) <;> first | rfl | omega | (simp only [decide_eq_true_eq, decide_eq_false_iff_not]; omega)
            refine wp_tabOut dX1_minds_76 (by omega) (tgt := 189) (by decide) ?_
            refine wp_iload dX1_minds_189 rfl ?_
            refine wp_zret rfl (by omega) dX1_minds_191 ?_
            refine kt ?_ M1 hG hR1
            unfold mindsA
            rw [if_neg (by omega), show A.2 0 x.toNat = M 17 x.toNat from (ar 0 x.toNat (by omega) (by omega)).symm, show A.2 1 x.toNat = M 18 x.toNat from (ar 1 x.toNat (by omega) (by omega)).symm, show A.2 2 x.toNat = M 19 x.toNat from (ar 2 x.toNat (by omega) (by omega)).symm, show A.2 3 y.toNat = M 20 y.toNat from (ar 3 y.toNat (by omega) (by omega)).symm, show A.2 1 y.toNat = M 18 y.toNat from (ar 1 y.toNat (by omega) (by omega)).symm, ← a1, show nmA A true x y = nmv M 16 true x y from funext fun c => (nm_eq hA (by omega) (fun _ => by omega)).symm]
            unfold mndF
            (repeat' split) <;> first | rfl | omega | (simp only [decide_eq_true_eq, decide_eq_false_iff_not]; omega)
          · refine wp_iconst dX1_minds_60 (by decide) ?_
            refine wp_goto (tgt := 65) dX1_minds_61 (by decide) ?_
            refine wp_istore (loc' := [(2, 51), (2, 16), (0, x), (0, y), (0, 1), (0, 1)]) dX1_minds_65 (Nat.le_of_ble_eq_true rfl) rfl ?_
            refine wp_aload_n dX1_minds_67 rfl rfl ?_
            refine wp_aload_n dX1_minds_68 rfl rfl ?_
            refine wp_get 16 rfl fl_RX1_44 rfl ⟨by omega, by omega⟩ dX1_minds_69 rfl (v := 17) (sr_16_4 (M := M1) hR1) ?_
            refine wp_iload_n dX1_minds_72 rfl rfl ?_
            refine wp_callV0 (d' := d - 1) cv_RX1_40 16 rfl [(2, 17), (0, x)] [] rfl rfl (Or.inl ⟨_, _, rfl, by decide, rfl, by omega, by omega⟩) (by omega) (Nat.le_of_ble_eq_true rfl) dX1_minds_73 rfl (Nat.le_of_ble_eq_true rfl) (by omega) (loc1 := [(2, 16), (2, 17), (0, x)]) rfl ?_
            refine sp_of_kind_16 hn hR1 x (by rw [hG 16 2 (by unfold VX; omega)]; omega) ?_
            rw [hG 17 x.toNat (by unfold VX; omega)]
            by_cases h76_0 : (M 17 x.toNat) = 1
            · refine wp_tabIn dX1_minds_76 0 (by omega) (by decide) rfl (tgt := 112) (by decide) ?_
              refine wp_iload dX1_minds_112 rfl ?_
              refine wp_if_eq (tgt := 130) dX1_minds_114 (by decide) (fun h => absurd h (by decide)) (fun _ => ?_)
              refine wp_aload_n dX1_minds_117 rfl rfl ?_
              refine wp_iload_n dX1_minds_118 rfl rfl ?_
              refine wp_iload_n dX1_minds_119 rfl rfl ?_
              refine wp_callV0 (d' := d - 1) cv_RX1_47 16 rfl [(0, x), (0, y)] [] rfl rfl (Or.inl ⟨_, _, rfl, by decide, rfl, by omega, by omega⟩) (by omega) (Nat.le_of_ble_eq_true rfl) dX1_minds_120 rfl (Nat.le_of_ble_eq_true rfl) (by omega) (loc1 := [(2, 16), (0, x), (0, y)]) rfl ?_
              refine sp_likes_16 hn hR1 x y (by rw [hG 16 2 (by unfold VX; omega)]; omega) ?_
              rw [hG 19 x.toNat (by unfold VX; omega)]
              refine wp_if_ne (tgt := 130) dX1_minds_123 (by decide) (fun h123 => ?_) (fun h123 => ?_)
              · refine wp_iconst dX1_minds_130 (by decide) ?_
                refine wp_zret rfl (by omega) dX1_minds_131 ?_
                refine kf ?_ M1 hG hR1
                unfold mindsA
                rw [if_neg (by omega), show A.2 0 x.toNat = M 17 x.toNat from (ar 0 x.toNat (by omega) (by omega)).symm, show A.2 1 x.toNat = M 18 x.toNat from (ar 1 x.toNat (by omega) (by omega)).symm, show A.2 2 x.toNat = M 19 x.toNat from (ar 2 x.toNat (by omega) (by omega)).symm, show A.2 3 y.toNat = M 20 y.toNat from (ar 3 y.toNat (by omega) (by omega)).symm, show A.2 1 y.toNat = M 18 y.toNat from (ar 1 y.toNat (by omega) (by omega)).symm, ← a1, show nmA A true x y = nmv M 16 true x y from funext fun c => (nm_eq hA (by omega) (fun _ => by omega)).symm]
                unfold mndF
                (repeat' split) <;> first | rfl | omega | (simp only [decide_eq_true_eq, decide_eq_false_iff_not]; omega)
              · refine wp_iconst dX1_minds_126 (by decide) ?_
                refine wp_goto (tgt := 131) dX1_minds_127 (by decide) ?_
                refine wp_zret rfl (by omega) dX1_minds_131 ?_
                refine kt ?_ M1 hG hR1
                unfold mindsA
                rw [if_neg (by omega), show A.2 0 x.toNat = M 17 x.toNat from (ar 0 x.toNat (by omega) (by omega)).symm, show A.2 1 x.toNat = M 18 x.toNat from (ar 1 x.toNat (by omega) (by omega)).symm, show A.2 2 x.toNat = M 19 x.toNat from (ar 2 x.toNat (by omega) (by omega)).symm, show A.2 3 y.toNat = M 20 y.toNat from (ar 3 y.toNat (by omega) (by omega)).symm, show A.2 1 y.toNat = M 18 y.toNat from (ar 1 y.toNat (by omega) (by omega)).symm, ← a1, show nmA A true x y = nmv M 16 true x y from funext fun c => (nm_eq hA (by omega) (fun _ => by omega)).symm]
                unfold mndF
                (repeat' split) <;> first | rfl | omega | (simp only [decide_eq_true_eq, decide_eq_false_iff_not]; omega)
            by_cases h76_1 : (M 17 x.toNat) = 2
            · refine wp_tabIn dX1_minds_76 1 (by omega) (by decide) rfl (tgt := 132) (by decide) ?_
              refine wp_iload dX1_minds_132 rfl ?_
              refine wp_if_ne (tgt := 142) dX1_minds_134 (by decide) (fun _ => ?_) (fun h => absurd h (by decide))
              refine wp_iconst dX1_minds_142 (by decide) ?_
              refine wp_goto (tgt := 147) dX1_minds_143 (by decide) ?_
              refine wp_zret rfl (by omega) dX1_minds_147 ?_
              refine kt ?_ M1 hG hR1
              unfold mindsA
              rw [if_neg (by omega), show A.2 0 x.toNat = M 17 x.toNat from (ar 0 x.toNat (by omega) (by omega)).symm, show A.2 1 x.toNat = M 18 x.toNat from (ar 1 x.toNat (by omega) (by omega)).symm, show A.2 2 x.toNat = M 19 x.toNat from (ar 2 x.toNat (by omega) (by omega)).symm, show A.2 3 y.toNat = M 20 y.toNat from (ar 3 y.toNat (by omega) (by omega)).symm, show A.2 1 y.toNat = M 18 y.toNat from (ar 1 y.toNat (by omega) (by omega)).symm, ← a1, show nmA A true x y = nmv M 16 true x y from funext fun c => (nm_eq hA (by omega) (fun _ => by omega)).symm]
              unfold mndF
              (repeat' split) <;> first | rfl | omega | (simp only [decide_eq_true_eq, decide_eq_false_iff_not]; omega)
            by_cases h76_2 : (M 17 x.toNat) = 3
            · refine wp_tabIn dX1_minds_76 2 (by omega) (by decide) rfl (tgt := 148) (by decide) ?_
              refine wp_iconst dX1_minds_148 (by decide) ?_
              refine wp_zret rfl (by omega) dX1_minds_149 ?_
              refine kf ?_ M1 hG hR1
              unfold mindsA
              rw [if_neg (by omega), show A.2 0 x.toNat = M 17 x.toNat from (ar 0 x.toNat (by omega) (by omega)).symm, show A.2 1 x.toNat = M 18 x.toNat from (ar 1 x.toNat (by omega) (by omega)).symm, show A.2 2 x.toNat = M 19 x.toNat from (ar 2 x.toNat (by omega) (by omega)).symm, show A.2 3 y.toNat = M 20 y.toNat from (ar 3 y.toNat (by omega) (by omega)).symm, show A.2 1 y.toNat = M 18 y.toNat from (ar 1 y.toNat (by omega) (by omega)).symm, ← a1, show nmA A true x y = nmv M 16 true x y from funext fun c => (nm_eq hA (by omega) (fun _ => by omega)).symm]
              unfold mndF
              (repeat' split) <;> first | rfl | omega | (simp only [decide_eq_true_eq, decide_eq_false_iff_not]; omega)
            by_cases h76_3 : (M 17 x.toNat) = 4
            · refine wp_tabIn dX1_minds_76 3 (by omega) (by decide) rfl (tgt := 150) (by decide) ?_
              refine wp_iload dX1_minds_150 rfl ?_
              refine wp_if_ne (tgt := 181) dX1_minds_152 (by decide) (fun _ => ?_) (fun h => absurd h (by decide))
              refine wp_iconst dX1_minds_181 (by decide) ?_
              refine wp_goto (tgt := 186) dX1_minds_182 (by decide) ?_
              refine wp_zret rfl (by omega) dX1_minds_186 ?_
              refine kt ?_ M1 hG hR1
              unfold mindsA
              rw [if_neg (by omega), show A.2 0 x.toNat = M 17 x.toNat from (ar 0 x.toNat (by omega) (by omega)).symm, show A.2 1 x.toNat = M 18 x.toNat from (ar 1 x.toNat (by omega) (by omega)).symm, show A.2 2 x.toNat = M 19 x.toNat from (ar 2 x.toNat (by omega) (by omega)).symm, show A.2 3 y.toNat = M 20 y.toNat from (ar 3 y.toNat (by omega) (by omega)).symm, show A.2 1 y.toNat = M 18 y.toNat from (ar 1 y.toNat (by omega) (by omega)).symm, ← a1, show nmA A true x y = nmv M 16 true x y from funext fun c => (nm_eq hA (by omega) (fun _ => by omega)).symm]
              unfold mndF
              (repeat' split) <;> first | rfl | omega | (simp only [decide_eq_true_eq, decide_eq_false_iff_not]; omega)
            by_cases h76_4 : (M 17 x.toNat) = 5
            · refine wp_tabIn dX1_minds_76 4 (by omega) (by decide) rfl (tgt := 187) (by decide) ?_
              refine wp_iconst dX1_minds_187 (by decide) ?_
              refine wp_zret rfl (by omega) dX1_minds_188 ?_
              refine kt ?_ M1 hG hR1
              unfold mindsA
              rw [if_neg (by omega), show A.2 0 x.toNat = M 17 x.toNat from (ar 0 x.toNat (by omega) (by omega)).symm, show A.2 1 x.toNat = M 18 x.toNat from (ar 1 x.toNat (by omega) (by omega)).symm, show A.2 2 x.toNat = M 19 x.toNat from (ar 2 x.toNat (by omega) (by omega)).symm, show A.2 3 y.toNat = M 20 y.toNat from (ar 3 y.toNat (by omega) (by omega)).symm, show A.2 1 y.toNat = M 18 y.toNat from (ar 1 y.toNat (by omega) (by omega)).symm, ← a1, show nmA A true x y = nmv M 16 true x y from funext fun c => (nm_eq hA (by omega) (fun _ => by omega)).symm]
              unfold mndF
              (repeat' split) <;> first | rfl | omega | (simp only [decide_eq_true_eq, decide_eq_false_iff_not]; omega)
            refine wp_tabOut dX1_minds_76 (by omega) (tgt := 189) (by decide) ?_
            refine wp_iload dX1_minds_189 rfl ?_
            refine wp_zret rfl (by omega) dX1_minds_191 ?_
            refine kt ?_ M1 hG hR1
            unfold mindsA
            rw [if_neg (by omega), show A.2 0 x.toNat = M 17 x.toNat from (ar 0 x.toNat (by omega) (by omega)).symm, show A.2 1 x.toNat = M 18 x.toNat from (ar 1 x.toNat (by omega) (by omega)).symm, show A.2 2 x.toNat = M 19 x.toNat from (ar 2 x.toNat (by omega) (by omega)).symm, show A.2 3 y.toNat = M 20 y.toNat from (ar 3 y.toNat (by omega) (by omega)).symm, show A.2 1 y.toNat = M 18 y.toNat from (ar 1 y.toNat (by omega) (by omega)).symm, ← a1, show nmA A true x y = nmv M 16 true x y from funext fun c => (nm_eq hA (by omega) (fun _ => by omega)).symm]
            unfold mndF
            (repeat' split) <;> first | rfl | omega | (simp only [decide_eq_true_eq, decide_eq_false_iff_not]; omega)
      · refine wp_iconst dX1_minds_21 (by decide) ?_
        refine wp_zret rfl (by omega) dX1_minds_22 ?_
        exact kt (by unfold mindsA; rw [if_pos (by omega)]) M Fr.rf hR
    · refine wp_if_eq (tgt := 21) dX1_minds_13 (by decide) (fun _ => ?_) (fun h => absurd h (by decide))
      refine wp_iconst dX1_minds_21 (by decide) ?_
      refine wp_zret rfl (by omega) dX1_minds_22 ?_
      exact kt (by unfold mindsA; rw [if_pos (by omega)]) M Fr.rf hR
  · refine wp_if_eq (tgt := 21) dX1_minds_5 (by decide) (fun _ => ?_) (fun h => absurd h (by decide))
    refine wp_iconst dX1_minds_21 (by decide) ?_
    refine wp_zret rfl (by omega) dX1_minds_22 ?_
    exact kt (by unfold mindsA; rw [if_pos (by omega)]) M Fr.rf hR
def overK (k : Int) : Int := if k = 0 then -1 else if k = 3 then 1 else if k = 4 then 2 else 0
/-- k is c, or over it -/
def undr (c k : Int) : Bool := decide (c = k ∨ overK c = k ∨ (0 ≤ overK c ∧ overK (overK c) = k))
set_option maxRecDepth 20000 in
set_option maxHeartbeats 4000000 in
theorem sp_isUnder {l : Launch} {g : Gw} {d n : Nat} {M : Mm} {Q : Option Wd → Mm → Prop} (c k : Int) (h0 : 0 ≤ c) (h5 : c ≤ 5) (kt : undr c k = true → Q (some (0, 1)) M) (kf : undr c k = false → Q (some (0, 0)) M) (hk : 0 ≤ k) : Wp l g d 0 0 n m_X1_isUnder 0 [] [(0, c), (0, k), (9, 0), (9, 0)] M Q := by
  rcases (show c = 0 ∨ c = 1 ∨ c = 2 ∨ c = 3 ∨ c = 4 ∨ c = 5 by omega) with rfl | rfl | rfl | rfl | rfl | rfl
  · refine wp_iload_n dX1_isUnder_0 rfl rfl ?_
    refine wp_istore_n (loc' := [(0, 0), (0, k), (0, 0), (9, 0)]) dX1_isUnder_1 rfl (Nat.le_of_ble_eq_true rfl) rfl ?_
    refine wp_iconst dX1_isUnder_2 (by decide) ?_
    refine wp_istore_n (loc' := [(0, 0), (0, k), (0, 0), (0, 0)]) dX1_isUnder_3 rfl (Nat.le_of_ble_eq_true rfl) rfl ?_
    refine wp_iload_n dX1_isUnder_4 rfl rfl ?_
    refine wp_bipush dX1_isUnder_5 (by decide) (by decide) ?_
    refine wp_icmp_ge (tgt := 41) dX1_isUnder_7 (by decide) (fun h => absurd h (by decide)) (fun _ => ?_)
    refine wp_iload_n dX1_isUnder_10 rfl rfl ?_
    refine wp_if_lt (tgt := 41) dX1_isUnder_11 (by decide) (fun h => absurd h (by decide)) (fun _ => ?_)
    refine wp_iload_n dX1_isUnder_14 rfl rfl ?_
    refine wp_getsO wl_RX1_15 dX1_isUnder_15 ?_
    refine wp_alenO dX1_isUnder_18 ?_
    refine wp_icmp_ge (tgt := 41) dX1_isUnder_19 (by decide) (fun h => absurd h (by decide)) (fun _ => ?_)
    refine wp_iload_n dX1_isUnder_22 rfl rfl ?_
    refine wp_iload_n dX1_isUnder_23 rfl rfl ?_
    refine wp_icmp_ne (tgt := 29) dX1_isUnder_24 (by decide) (fun h24 => ?_) (fun h24 => ?_)
    · refine wp_getsO wl_RX1_15 dX1_isUnder_29 ?_
      refine wp_iload_n dX1_isUnder_32 rfl rfl ?_
      refine wp_ialdO ⟨by omega, by omega⟩ dX1_isUnder_33 ?_
      change Wp _ _ _ _ _ _ _ _ ((0, (-1)) :: _) _ _ _
      refine wp_istore_n (loc' := [(0, 0), (0, k), (0, (-1)), (0, 0)]) dX1_isUnder_34 rfl (Nat.le_of_ble_eq_true rfl) rfl ?_
      refine wp_iinc (loc' := [(0, 0), (0, k), (0, (-1)), (0, 1)]) dX1_isUnder_35 rfl (by omega) rfl ?_
      refine wp_goto (tgt := 4) dX1_isUnder_38 (by decide) ?_
      refine wp_iload_n dX1_isUnder_4 rfl rfl ?_
      refine wp_bipush dX1_isUnder_5 (by decide) (by decide) ?_
      refine wp_icmp_ge (tgt := 41) dX1_isUnder_7 (by decide) (fun h => absurd h (by decide)) (fun _ => ?_)
      refine wp_iload_n dX1_isUnder_10 rfl rfl ?_
      refine wp_if_lt (tgt := 41) dX1_isUnder_11 (by decide) (fun _ => ?_) (fun h => absurd h (by decide))
      refine wp_iconst dX1_isUnder_41 (by decide) ?_
      refine wp_zret rfl (by omega) dX1_isUnder_42 ?_
      exact kf (by unfold undr overK; first | (simp only [decide_eq_true_eq, decide_eq_false_iff_not]; omega) | (subst_vars; decide))
    · refine wp_iconst dX1_isUnder_27 (by decide) ?_
      refine wp_zret rfl (by omega) dX1_isUnder_28 ?_
      exact kt (by unfold undr overK; first | (simp only [decide_eq_true_eq, decide_eq_false_iff_not]; omega) | (subst_vars; decide))
  · refine wp_iload_n dX1_isUnder_0 rfl rfl ?_
    refine wp_istore_n (loc' := [(0, 1), (0, k), (0, 1), (9, 0)]) dX1_isUnder_1 rfl (Nat.le_of_ble_eq_true rfl) rfl ?_
    refine wp_iconst dX1_isUnder_2 (by decide) ?_
    refine wp_istore_n (loc' := [(0, 1), (0, k), (0, 1), (0, 0)]) dX1_isUnder_3 rfl (Nat.le_of_ble_eq_true rfl) rfl ?_
    refine wp_iload_n dX1_isUnder_4 rfl rfl ?_
    refine wp_bipush dX1_isUnder_5 (by decide) (by decide) ?_
    refine wp_icmp_ge (tgt := 41) dX1_isUnder_7 (by decide) (fun h => absurd h (by decide)) (fun _ => ?_)
    refine wp_iload_n dX1_isUnder_10 rfl rfl ?_
    refine wp_if_lt (tgt := 41) dX1_isUnder_11 (by decide) (fun h => absurd h (by decide)) (fun _ => ?_)
    refine wp_iload_n dX1_isUnder_14 rfl rfl ?_
    refine wp_getsO wl_RX1_15 dX1_isUnder_15 ?_
    refine wp_alenO dX1_isUnder_18 ?_
    refine wp_icmp_ge (tgt := 41) dX1_isUnder_19 (by decide) (fun h => absurd h (by decide)) (fun _ => ?_)
    refine wp_iload_n dX1_isUnder_22 rfl rfl ?_
    refine wp_iload_n dX1_isUnder_23 rfl rfl ?_
    refine wp_icmp_ne (tgt := 29) dX1_isUnder_24 (by decide) (fun h24 => ?_) (fun h24 => ?_)
    · refine wp_getsO wl_RX1_15 dX1_isUnder_29 ?_
      refine wp_iload_n dX1_isUnder_32 rfl rfl ?_
      refine wp_ialdO ⟨by omega, by omega⟩ dX1_isUnder_33 ?_
      change Wp _ _ _ _ _ _ _ _ ((0, 0) :: _) _ _ _
      refine wp_istore_n (loc' := [(0, 1), (0, k), (0, 0), (0, 0)]) dX1_isUnder_34 rfl (Nat.le_of_ble_eq_true rfl) rfl ?_
      refine wp_iinc (loc' := [(0, 1), (0, k), (0, 0), (0, 1)]) dX1_isUnder_35 rfl (by omega) rfl ?_
      refine wp_goto (tgt := 4) dX1_isUnder_38 (by decide) ?_
      refine wp_iload_n dX1_isUnder_4 rfl rfl ?_
      refine wp_bipush dX1_isUnder_5 (by decide) (by decide) ?_
      refine wp_icmp_ge (tgt := 41) dX1_isUnder_7 (by decide) (fun h => absurd h (by decide)) (fun _ => ?_)
      refine wp_iload_n dX1_isUnder_10 rfl rfl ?_
      refine wp_if_lt (tgt := 41) dX1_isUnder_11 (by decide) (fun h => absurd h (by decide)) (fun _ => ?_)
      refine wp_iload_n dX1_isUnder_14 rfl rfl ?_
      refine wp_getsO wl_RX1_15 dX1_isUnder_15 ?_
      refine wp_alenO dX1_isUnder_18 ?_
      refine wp_icmp_ge (tgt := 41) dX1_isUnder_19 (by decide) (fun h => absurd h (by decide)) (fun _ => ?_)
      refine wp_iload_n dX1_isUnder_22 rfl rfl ?_
      refine wp_iload_n dX1_isUnder_23 rfl rfl ?_
      refine wp_icmp_ne (tgt := 29) dX1_isUnder_24 (by decide) (fun h24 => ?_) (fun h24 => ?_)
      · refine wp_getsO wl_RX1_15 dX1_isUnder_29 ?_
        refine wp_iload_n dX1_isUnder_32 rfl rfl ?_
        refine wp_ialdO ⟨by omega, by omega⟩ dX1_isUnder_33 ?_
        change Wp _ _ _ _ _ _ _ _ ((0, (-1)) :: _) _ _ _
        refine wp_istore_n (loc' := [(0, 1), (0, k), (0, (-1)), (0, 1)]) dX1_isUnder_34 rfl (Nat.le_of_ble_eq_true rfl) rfl ?_
        refine wp_iinc (loc' := [(0, 1), (0, k), (0, (-1)), (0, 2)]) dX1_isUnder_35 rfl (by omega) rfl ?_
        refine wp_goto (tgt := 4) dX1_isUnder_38 (by decide) ?_
        refine wp_iload_n dX1_isUnder_4 rfl rfl ?_
        refine wp_bipush dX1_isUnder_5 (by decide) (by decide) ?_
        refine wp_icmp_ge (tgt := 41) dX1_isUnder_7 (by decide) (fun h => absurd h (by decide)) (fun _ => ?_)
        refine wp_iload_n dX1_isUnder_10 rfl rfl ?_
        refine wp_if_lt (tgt := 41) dX1_isUnder_11 (by decide) (fun _ => ?_) (fun h => absurd h (by decide))
        refine wp_iconst dX1_isUnder_41 (by decide) ?_
        refine wp_zret rfl (by omega) dX1_isUnder_42 ?_
        exact kf (by unfold undr overK; first | (simp only [decide_eq_true_eq, decide_eq_false_iff_not]; omega) | (subst_vars; decide))
      · refine wp_iconst dX1_isUnder_27 (by decide) ?_
        refine wp_zret rfl (by omega) dX1_isUnder_28 ?_
        exact kt (by unfold undr overK; first | (simp only [decide_eq_true_eq, decide_eq_false_iff_not]; omega) | (subst_vars; decide))
    · refine wp_iconst dX1_isUnder_27 (by decide) ?_
      refine wp_zret rfl (by omega) dX1_isUnder_28 ?_
      exact kt (by unfold undr overK; first | (simp only [decide_eq_true_eq, decide_eq_false_iff_not]; omega) | (subst_vars; decide))
  · refine wp_iload_n dX1_isUnder_0 rfl rfl ?_
    refine wp_istore_n (loc' := [(0, 2), (0, k), (0, 2), (9, 0)]) dX1_isUnder_1 rfl (Nat.le_of_ble_eq_true rfl) rfl ?_
    refine wp_iconst dX1_isUnder_2 (by decide) ?_
    refine wp_istore_n (loc' := [(0, 2), (0, k), (0, 2), (0, 0)]) dX1_isUnder_3 rfl (Nat.le_of_ble_eq_true rfl) rfl ?_
    refine wp_iload_n dX1_isUnder_4 rfl rfl ?_
    refine wp_bipush dX1_isUnder_5 (by decide) (by decide) ?_
    refine wp_icmp_ge (tgt := 41) dX1_isUnder_7 (by decide) (fun h => absurd h (by decide)) (fun _ => ?_)
    refine wp_iload_n dX1_isUnder_10 rfl rfl ?_
    refine wp_if_lt (tgt := 41) dX1_isUnder_11 (by decide) (fun h => absurd h (by decide)) (fun _ => ?_)
    refine wp_iload_n dX1_isUnder_14 rfl rfl ?_
    refine wp_getsO wl_RX1_15 dX1_isUnder_15 ?_
    refine wp_alenO dX1_isUnder_18 ?_
    refine wp_icmp_ge (tgt := 41) dX1_isUnder_19 (by decide) (fun h => absurd h (by decide)) (fun _ => ?_)
    refine wp_iload_n dX1_isUnder_22 rfl rfl ?_
    refine wp_iload_n dX1_isUnder_23 rfl rfl ?_
    refine wp_icmp_ne (tgt := 29) dX1_isUnder_24 (by decide) (fun h24 => ?_) (fun h24 => ?_)
    · refine wp_getsO wl_RX1_15 dX1_isUnder_29 ?_
      refine wp_iload_n dX1_isUnder_32 rfl rfl ?_
      refine wp_ialdO ⟨by omega, by omega⟩ dX1_isUnder_33 ?_
      change Wp _ _ _ _ _ _ _ _ ((0, 0) :: _) _ _ _
      refine wp_istore_n (loc' := [(0, 2), (0, k), (0, 0), (0, 0)]) dX1_isUnder_34 rfl (Nat.le_of_ble_eq_true rfl) rfl ?_
      refine wp_iinc (loc' := [(0, 2), (0, k), (0, 0), (0, 1)]) dX1_isUnder_35 rfl (by omega) rfl ?_
      refine wp_goto (tgt := 4) dX1_isUnder_38 (by decide) ?_
      refine wp_iload_n dX1_isUnder_4 rfl rfl ?_
      refine wp_bipush dX1_isUnder_5 (by decide) (by decide) ?_
      refine wp_icmp_ge (tgt := 41) dX1_isUnder_7 (by decide) (fun h => absurd h (by decide)) (fun _ => ?_)
      refine wp_iload_n dX1_isUnder_10 rfl rfl ?_
      refine wp_if_lt (tgt := 41) dX1_isUnder_11 (by decide) (fun h => absurd h (by decide)) (fun _ => ?_)
      refine wp_iload_n dX1_isUnder_14 rfl rfl ?_
      refine wp_getsO wl_RX1_15 dX1_isUnder_15 ?_
      refine wp_alenO dX1_isUnder_18 ?_
      refine wp_icmp_ge (tgt := 41) dX1_isUnder_19 (by decide) (fun h => absurd h (by decide)) (fun _ => ?_)
      refine wp_iload_n dX1_isUnder_22 rfl rfl ?_
      refine wp_iload_n dX1_isUnder_23 rfl rfl ?_
      refine wp_icmp_ne (tgt := 29) dX1_isUnder_24 (by decide) (fun h24 => ?_) (fun h24 => ?_)
      · refine wp_getsO wl_RX1_15 dX1_isUnder_29 ?_
        refine wp_iload_n dX1_isUnder_32 rfl rfl ?_
        refine wp_ialdO ⟨by omega, by omega⟩ dX1_isUnder_33 ?_
        change Wp _ _ _ _ _ _ _ _ ((0, (-1)) :: _) _ _ _
        refine wp_istore_n (loc' := [(0, 2), (0, k), (0, (-1)), (0, 1)]) dX1_isUnder_34 rfl (Nat.le_of_ble_eq_true rfl) rfl ?_
        refine wp_iinc (loc' := [(0, 2), (0, k), (0, (-1)), (0, 2)]) dX1_isUnder_35 rfl (by omega) rfl ?_
        refine wp_goto (tgt := 4) dX1_isUnder_38 (by decide) ?_
        refine wp_iload_n dX1_isUnder_4 rfl rfl ?_
        refine wp_bipush dX1_isUnder_5 (by decide) (by decide) ?_
        refine wp_icmp_ge (tgt := 41) dX1_isUnder_7 (by decide) (fun h => absurd h (by decide)) (fun _ => ?_)
        refine wp_iload_n dX1_isUnder_10 rfl rfl ?_
        refine wp_if_lt (tgt := 41) dX1_isUnder_11 (by decide) (fun _ => ?_) (fun h => absurd h (by decide))
        refine wp_iconst dX1_isUnder_41 (by decide) ?_
        refine wp_zret rfl (by omega) dX1_isUnder_42 ?_
        exact kf (by unfold undr overK; first | (simp only [decide_eq_true_eq, decide_eq_false_iff_not]; omega) | (subst_vars; decide))
      · refine wp_iconst dX1_isUnder_27 (by decide) ?_
        refine wp_zret rfl (by omega) dX1_isUnder_28 ?_
        exact kt (by unfold undr overK; first | (simp only [decide_eq_true_eq, decide_eq_false_iff_not]; omega) | (subst_vars; decide))
    · refine wp_iconst dX1_isUnder_27 (by decide) ?_
      refine wp_zret rfl (by omega) dX1_isUnder_28 ?_
      exact kt (by unfold undr overK; first | (simp only [decide_eq_true_eq, decide_eq_false_iff_not]; omega) | (subst_vars; decide))
  · refine wp_iload_n dX1_isUnder_0 rfl rfl ?_
    refine wp_istore_n (loc' := [(0, 3), (0, k), (0, 3), (9, 0)]) dX1_isUnder_1 rfl (Nat.le_of_ble_eq_true rfl) rfl ?_
    refine wp_iconst dX1_isUnder_2 (by decide) ?_
    refine wp_istore_n (loc' := [(0, 3), (0, k), (0, 3), (0, 0)]) dX1_isUnder_3 rfl (Nat.le_of_ble_eq_true rfl) rfl ?_
    refine wp_iload_n dX1_isUnder_4 rfl rfl ?_
    refine wp_bipush dX1_isUnder_5 (by decide) (by decide) ?_
    refine wp_icmp_ge (tgt := 41) dX1_isUnder_7 (by decide) (fun h => absurd h (by decide)) (fun _ => ?_)
    refine wp_iload_n dX1_isUnder_10 rfl rfl ?_
    refine wp_if_lt (tgt := 41) dX1_isUnder_11 (by decide) (fun h => absurd h (by decide)) (fun _ => ?_)
    refine wp_iload_n dX1_isUnder_14 rfl rfl ?_
    refine wp_getsO wl_RX1_15 dX1_isUnder_15 ?_
    refine wp_alenO dX1_isUnder_18 ?_
    refine wp_icmp_ge (tgt := 41) dX1_isUnder_19 (by decide) (fun h => absurd h (by decide)) (fun _ => ?_)
    refine wp_iload_n dX1_isUnder_22 rfl rfl ?_
    refine wp_iload_n dX1_isUnder_23 rfl rfl ?_
    refine wp_icmp_ne (tgt := 29) dX1_isUnder_24 (by decide) (fun h24 => ?_) (fun h24 => ?_)
    · refine wp_getsO wl_RX1_15 dX1_isUnder_29 ?_
      refine wp_iload_n dX1_isUnder_32 rfl rfl ?_
      refine wp_ialdO ⟨by omega, by omega⟩ dX1_isUnder_33 ?_
      change Wp _ _ _ _ _ _ _ _ ((0, 1) :: _) _ _ _
      refine wp_istore_n (loc' := [(0, 3), (0, k), (0, 1), (0, 0)]) dX1_isUnder_34 rfl (Nat.le_of_ble_eq_true rfl) rfl ?_
      refine wp_iinc (loc' := [(0, 3), (0, k), (0, 1), (0, 1)]) dX1_isUnder_35 rfl (by omega) rfl ?_
      refine wp_goto (tgt := 4) dX1_isUnder_38 (by decide) ?_
      refine wp_iload_n dX1_isUnder_4 rfl rfl ?_
      refine wp_bipush dX1_isUnder_5 (by decide) (by decide) ?_
      refine wp_icmp_ge (tgt := 41) dX1_isUnder_7 (by decide) (fun h => absurd h (by decide)) (fun _ => ?_)
      refine wp_iload_n dX1_isUnder_10 rfl rfl ?_
      refine wp_if_lt (tgt := 41) dX1_isUnder_11 (by decide) (fun h => absurd h (by decide)) (fun _ => ?_)
      refine wp_iload_n dX1_isUnder_14 rfl rfl ?_
      refine wp_getsO wl_RX1_15 dX1_isUnder_15 ?_
      refine wp_alenO dX1_isUnder_18 ?_
      refine wp_icmp_ge (tgt := 41) dX1_isUnder_19 (by decide) (fun h => absurd h (by decide)) (fun _ => ?_)
      refine wp_iload_n dX1_isUnder_22 rfl rfl ?_
      refine wp_iload_n dX1_isUnder_23 rfl rfl ?_
      refine wp_icmp_ne (tgt := 29) dX1_isUnder_24 (by decide) (fun h24 => ?_) (fun h24 => ?_)
      · refine wp_getsO wl_RX1_15 dX1_isUnder_29 ?_
        refine wp_iload_n dX1_isUnder_32 rfl rfl ?_
        refine wp_ialdO ⟨by omega, by omega⟩ dX1_isUnder_33 ?_
        change Wp _ _ _ _ _ _ _ _ ((0, 0) :: _) _ _ _
        refine wp_istore_n (loc' := [(0, 3), (0, k), (0, 0), (0, 1)]) dX1_isUnder_34 rfl (Nat.le_of_ble_eq_true rfl) rfl ?_
        refine wp_iinc (loc' := [(0, 3), (0, k), (0, 0), (0, 2)]) dX1_isUnder_35 rfl (by omega) rfl ?_
        refine wp_goto (tgt := 4) dX1_isUnder_38 (by decide) ?_
        refine wp_iload_n dX1_isUnder_4 rfl rfl ?_
        refine wp_bipush dX1_isUnder_5 (by decide) (by decide) ?_
        refine wp_icmp_ge (tgt := 41) dX1_isUnder_7 (by decide) (fun h => absurd h (by decide)) (fun _ => ?_)
        refine wp_iload_n dX1_isUnder_10 rfl rfl ?_
        refine wp_if_lt (tgt := 41) dX1_isUnder_11 (by decide) (fun h => absurd h (by decide)) (fun _ => ?_)
        refine wp_iload_n dX1_isUnder_14 rfl rfl ?_
        refine wp_getsO wl_RX1_15 dX1_isUnder_15 ?_
        refine wp_alenO dX1_isUnder_18 ?_
        refine wp_icmp_ge (tgt := 41) dX1_isUnder_19 (by decide) (fun h => absurd h (by decide)) (fun _ => ?_)
        refine wp_iload_n dX1_isUnder_22 rfl rfl ?_
        refine wp_iload_n dX1_isUnder_23 rfl rfl ?_
        refine wp_icmp_ne (tgt := 29) dX1_isUnder_24 (by decide) (fun h24 => ?_) (fun h24 => ?_)
        · refine wp_getsO wl_RX1_15 dX1_isUnder_29 ?_
          refine wp_iload_n dX1_isUnder_32 rfl rfl ?_
          refine wp_ialdO ⟨by omega, by omega⟩ dX1_isUnder_33 ?_
          change Wp _ _ _ _ _ _ _ _ ((0, (-1)) :: _) _ _ _
          refine wp_istore_n (loc' := [(0, 3), (0, k), (0, (-1)), (0, 2)]) dX1_isUnder_34 rfl (Nat.le_of_ble_eq_true rfl) rfl ?_
          refine wp_iinc (loc' := [(0, 3), (0, k), (0, (-1)), (0, 3)]) dX1_isUnder_35 rfl (by omega) rfl ?_
          refine wp_goto (tgt := 4) dX1_isUnder_38 (by decide) ?_
          refine wp_iload_n dX1_isUnder_4 rfl rfl ?_
          refine wp_bipush dX1_isUnder_5 (by decide) (by decide) ?_
          refine wp_icmp_ge (tgt := 41) dX1_isUnder_7 (by decide) (fun h => absurd h (by decide)) (fun _ => ?_)
          refine wp_iload_n dX1_isUnder_10 rfl rfl ?_
          refine wp_if_lt (tgt := 41) dX1_isUnder_11 (by decide) (fun _ => ?_) (fun h => absurd h (by decide))
          refine wp_iconst dX1_isUnder_41 (by decide) ?_
          refine wp_zret rfl (by omega) dX1_isUnder_42 ?_
          exact kf (by unfold undr overK; first | (simp only [decide_eq_true_eq, decide_eq_false_iff_not]; omega) | (subst_vars; decide))
        · refine wp_iconst dX1_isUnder_27 (by decide) ?_
          refine wp_zret rfl (by omega) dX1_isUnder_28 ?_
          exact kt (by unfold undr overK; first | (simp only [decide_eq_true_eq, decide_eq_false_iff_not]; omega) | (subst_vars; decide))
      · refine wp_iconst dX1_isUnder_27 (by decide) ?_
        refine wp_zret rfl (by omega) dX1_isUnder_28 ?_
        exact kt (by unfold undr overK; first | (simp only [decide_eq_true_eq, decide_eq_false_iff_not]; omega) | (subst_vars; decide))
    · refine wp_iconst dX1_isUnder_27 (by decide) ?_
      refine wp_zret rfl (by omega) dX1_isUnder_28 ?_
      exact kt (by unfold undr overK; first | (simp only [decide_eq_true_eq, decide_eq_false_iff_not]; omega) | (subst_vars; decide))
  · refine wp_iload_n dX1_isUnder_0 rfl rfl ?_
    refine wp_istore_n (loc' := [(0, 4), (0, k), (0, 4), (9, 0)]) dX1_isUnder_1 rfl (Nat.le_of_ble_eq_true rfl) rfl ?_
    refine wp_iconst dX1_isUnder_2 (by decide) ?_
    refine wp_istore_n (loc' := [(0, 4), (0, k), (0, 4), (0, 0)]) dX1_isUnder_3 rfl (Nat.le_of_ble_eq_true rfl) rfl ?_
    refine wp_iload_n dX1_isUnder_4 rfl rfl ?_
    refine wp_bipush dX1_isUnder_5 (by decide) (by decide) ?_
    refine wp_icmp_ge (tgt := 41) dX1_isUnder_7 (by decide) (fun h => absurd h (by decide)) (fun _ => ?_)
    refine wp_iload_n dX1_isUnder_10 rfl rfl ?_
    refine wp_if_lt (tgt := 41) dX1_isUnder_11 (by decide) (fun h => absurd h (by decide)) (fun _ => ?_)
    refine wp_iload_n dX1_isUnder_14 rfl rfl ?_
    refine wp_getsO wl_RX1_15 dX1_isUnder_15 ?_
    refine wp_alenO dX1_isUnder_18 ?_
    refine wp_icmp_ge (tgt := 41) dX1_isUnder_19 (by decide) (fun h => absurd h (by decide)) (fun _ => ?_)
    refine wp_iload_n dX1_isUnder_22 rfl rfl ?_
    refine wp_iload_n dX1_isUnder_23 rfl rfl ?_
    refine wp_icmp_ne (tgt := 29) dX1_isUnder_24 (by decide) (fun h24 => ?_) (fun h24 => ?_)
    · refine wp_getsO wl_RX1_15 dX1_isUnder_29 ?_
      refine wp_iload_n dX1_isUnder_32 rfl rfl ?_
      refine wp_ialdO ⟨by omega, by omega⟩ dX1_isUnder_33 ?_
      change Wp _ _ _ _ _ _ _ _ ((0, 2) :: _) _ _ _
      refine wp_istore_n (loc' := [(0, 4), (0, k), (0, 2), (0, 0)]) dX1_isUnder_34 rfl (Nat.le_of_ble_eq_true rfl) rfl ?_
      refine wp_iinc (loc' := [(0, 4), (0, k), (0, 2), (0, 1)]) dX1_isUnder_35 rfl (by omega) rfl ?_
      refine wp_goto (tgt := 4) dX1_isUnder_38 (by decide) ?_
      refine wp_iload_n dX1_isUnder_4 rfl rfl ?_
      refine wp_bipush dX1_isUnder_5 (by decide) (by decide) ?_
      refine wp_icmp_ge (tgt := 41) dX1_isUnder_7 (by decide) (fun h => absurd h (by decide)) (fun _ => ?_)
      refine wp_iload_n dX1_isUnder_10 rfl rfl ?_
      refine wp_if_lt (tgt := 41) dX1_isUnder_11 (by decide) (fun h => absurd h (by decide)) (fun _ => ?_)
      refine wp_iload_n dX1_isUnder_14 rfl rfl ?_
      refine wp_getsO wl_RX1_15 dX1_isUnder_15 ?_
      refine wp_alenO dX1_isUnder_18 ?_
      refine wp_icmp_ge (tgt := 41) dX1_isUnder_19 (by decide) (fun h => absurd h (by decide)) (fun _ => ?_)
      refine wp_iload_n dX1_isUnder_22 rfl rfl ?_
      refine wp_iload_n dX1_isUnder_23 rfl rfl ?_
      refine wp_icmp_ne (tgt := 29) dX1_isUnder_24 (by decide) (fun h24 => ?_) (fun h24 => ?_)
      · refine wp_getsO wl_RX1_15 dX1_isUnder_29 ?_
        refine wp_iload_n dX1_isUnder_32 rfl rfl ?_
        refine wp_ialdO ⟨by omega, by omega⟩ dX1_isUnder_33 ?_
        change Wp _ _ _ _ _ _ _ _ ((0, 0) :: _) _ _ _
        refine wp_istore_n (loc' := [(0, 4), (0, k), (0, 0), (0, 1)]) dX1_isUnder_34 rfl (Nat.le_of_ble_eq_true rfl) rfl ?_
        refine wp_iinc (loc' := [(0, 4), (0, k), (0, 0), (0, 2)]) dX1_isUnder_35 rfl (by omega) rfl ?_
        refine wp_goto (tgt := 4) dX1_isUnder_38 (by decide) ?_
        refine wp_iload_n dX1_isUnder_4 rfl rfl ?_
        refine wp_bipush dX1_isUnder_5 (by decide) (by decide) ?_
        refine wp_icmp_ge (tgt := 41) dX1_isUnder_7 (by decide) (fun h => absurd h (by decide)) (fun _ => ?_)
        refine wp_iload_n dX1_isUnder_10 rfl rfl ?_
        refine wp_if_lt (tgt := 41) dX1_isUnder_11 (by decide) (fun h => absurd h (by decide)) (fun _ => ?_)
        refine wp_iload_n dX1_isUnder_14 rfl rfl ?_
        refine wp_getsO wl_RX1_15 dX1_isUnder_15 ?_
        refine wp_alenO dX1_isUnder_18 ?_
        refine wp_icmp_ge (tgt := 41) dX1_isUnder_19 (by decide) (fun h => absurd h (by decide)) (fun _ => ?_)
        refine wp_iload_n dX1_isUnder_22 rfl rfl ?_
        refine wp_iload_n dX1_isUnder_23 rfl rfl ?_
        refine wp_icmp_ne (tgt := 29) dX1_isUnder_24 (by decide) (fun h24 => ?_) (fun h24 => ?_)
        · refine wp_getsO wl_RX1_15 dX1_isUnder_29 ?_
          refine wp_iload_n dX1_isUnder_32 rfl rfl ?_
          refine wp_ialdO ⟨by omega, by omega⟩ dX1_isUnder_33 ?_
          change Wp _ _ _ _ _ _ _ _ ((0, (-1)) :: _) _ _ _
          refine wp_istore_n (loc' := [(0, 4), (0, k), (0, (-1)), (0, 2)]) dX1_isUnder_34 rfl (Nat.le_of_ble_eq_true rfl) rfl ?_
          refine wp_iinc (loc' := [(0, 4), (0, k), (0, (-1)), (0, 3)]) dX1_isUnder_35 rfl (by omega) rfl ?_
          refine wp_goto (tgt := 4) dX1_isUnder_38 (by decide) ?_
          refine wp_iload_n dX1_isUnder_4 rfl rfl ?_
          refine wp_bipush dX1_isUnder_5 (by decide) (by decide) ?_
          refine wp_icmp_ge (tgt := 41) dX1_isUnder_7 (by decide) (fun h => absurd h (by decide)) (fun _ => ?_)
          refine wp_iload_n dX1_isUnder_10 rfl rfl ?_
          refine wp_if_lt (tgt := 41) dX1_isUnder_11 (by decide) (fun _ => ?_) (fun h => absurd h (by decide))
          refine wp_iconst dX1_isUnder_41 (by decide) ?_
          refine wp_zret rfl (by omega) dX1_isUnder_42 ?_
          exact kf (by unfold undr overK; first | (simp only [decide_eq_true_eq, decide_eq_false_iff_not]; omega) | (subst_vars; decide))
        · refine wp_iconst dX1_isUnder_27 (by decide) ?_
          refine wp_zret rfl (by omega) dX1_isUnder_28 ?_
          exact kt (by unfold undr overK; first | (simp only [decide_eq_true_eq, decide_eq_false_iff_not]; omega) | (subst_vars; decide))
      · refine wp_iconst dX1_isUnder_27 (by decide) ?_
        refine wp_zret rfl (by omega) dX1_isUnder_28 ?_
        exact kt (by unfold undr overK; first | (simp only [decide_eq_true_eq, decide_eq_false_iff_not]; omega) | (subst_vars; decide))
    · refine wp_iconst dX1_isUnder_27 (by decide) ?_
      refine wp_zret rfl (by omega) dX1_isUnder_28 ?_
      exact kt (by unfold undr overK; first | (simp only [decide_eq_true_eq, decide_eq_false_iff_not]; omega) | (subst_vars; decide))
  · refine wp_iload_n dX1_isUnder_0 rfl rfl ?_
    refine wp_istore_n (loc' := [(0, 5), (0, k), (0, 5), (9, 0)]) dX1_isUnder_1 rfl (Nat.le_of_ble_eq_true rfl) rfl ?_
    refine wp_iconst dX1_isUnder_2 (by decide) ?_
    refine wp_istore_n (loc' := [(0, 5), (0, k), (0, 5), (0, 0)]) dX1_isUnder_3 rfl (Nat.le_of_ble_eq_true rfl) rfl ?_
    refine wp_iload_n dX1_isUnder_4 rfl rfl ?_
    refine wp_bipush dX1_isUnder_5 (by decide) (by decide) ?_
    refine wp_icmp_ge (tgt := 41) dX1_isUnder_7 (by decide) (fun h => absurd h (by decide)) (fun _ => ?_)
    refine wp_iload_n dX1_isUnder_10 rfl rfl ?_
    refine wp_if_lt (tgt := 41) dX1_isUnder_11 (by decide) (fun h => absurd h (by decide)) (fun _ => ?_)
    refine wp_iload_n dX1_isUnder_14 rfl rfl ?_
    refine wp_getsO wl_RX1_15 dX1_isUnder_15 ?_
    refine wp_alenO dX1_isUnder_18 ?_
    refine wp_icmp_ge (tgt := 41) dX1_isUnder_19 (by decide) (fun h => absurd h (by decide)) (fun _ => ?_)
    refine wp_iload_n dX1_isUnder_22 rfl rfl ?_
    refine wp_iload_n dX1_isUnder_23 rfl rfl ?_
    refine wp_icmp_ne (tgt := 29) dX1_isUnder_24 (by decide) (fun h24 => ?_) (fun h24 => ?_)
    · refine wp_getsO wl_RX1_15 dX1_isUnder_29 ?_
      refine wp_iload_n dX1_isUnder_32 rfl rfl ?_
      refine wp_ialdO ⟨by omega, by omega⟩ dX1_isUnder_33 ?_
      change Wp _ _ _ _ _ _ _ _ ((0, 0) :: _) _ _ _
      refine wp_istore_n (loc' := [(0, 5), (0, k), (0, 0), (0, 0)]) dX1_isUnder_34 rfl (Nat.le_of_ble_eq_true rfl) rfl ?_
      refine wp_iinc (loc' := [(0, 5), (0, k), (0, 0), (0, 1)]) dX1_isUnder_35 rfl (by omega) rfl ?_
      refine wp_goto (tgt := 4) dX1_isUnder_38 (by decide) ?_
      refine wp_iload_n dX1_isUnder_4 rfl rfl ?_
      refine wp_bipush dX1_isUnder_5 (by decide) (by decide) ?_
      refine wp_icmp_ge (tgt := 41) dX1_isUnder_7 (by decide) (fun h => absurd h (by decide)) (fun _ => ?_)
      refine wp_iload_n dX1_isUnder_10 rfl rfl ?_
      refine wp_if_lt (tgt := 41) dX1_isUnder_11 (by decide) (fun h => absurd h (by decide)) (fun _ => ?_)
      refine wp_iload_n dX1_isUnder_14 rfl rfl ?_
      refine wp_getsO wl_RX1_15 dX1_isUnder_15 ?_
      refine wp_alenO dX1_isUnder_18 ?_
      refine wp_icmp_ge (tgt := 41) dX1_isUnder_19 (by decide) (fun h => absurd h (by decide)) (fun _ => ?_)
      refine wp_iload_n dX1_isUnder_22 rfl rfl ?_
      refine wp_iload_n dX1_isUnder_23 rfl rfl ?_
      refine wp_icmp_ne (tgt := 29) dX1_isUnder_24 (by decide) (fun h24 => ?_) (fun h24 => ?_)
      · refine wp_getsO wl_RX1_15 dX1_isUnder_29 ?_
        refine wp_iload_n dX1_isUnder_32 rfl rfl ?_
        refine wp_ialdO ⟨by omega, by omega⟩ dX1_isUnder_33 ?_
        change Wp _ _ _ _ _ _ _ _ ((0, (-1)) :: _) _ _ _
        refine wp_istore_n (loc' := [(0, 5), (0, k), (0, (-1)), (0, 1)]) dX1_isUnder_34 rfl (Nat.le_of_ble_eq_true rfl) rfl ?_
        refine wp_iinc (loc' := [(0, 5), (0, k), (0, (-1)), (0, 2)]) dX1_isUnder_35 rfl (by omega) rfl ?_
        refine wp_goto (tgt := 4) dX1_isUnder_38 (by decide) ?_
        refine wp_iload_n dX1_isUnder_4 rfl rfl ?_
        refine wp_bipush dX1_isUnder_5 (by decide) (by decide) ?_
        refine wp_icmp_ge (tgt := 41) dX1_isUnder_7 (by decide) (fun h => absurd h (by decide)) (fun _ => ?_)
        refine wp_iload_n dX1_isUnder_10 rfl rfl ?_
        refine wp_if_lt (tgt := 41) dX1_isUnder_11 (by decide) (fun _ => ?_) (fun h => absurd h (by decide))
        refine wp_iconst dX1_isUnder_41 (by decide) ?_
        refine wp_zret rfl (by omega) dX1_isUnder_42 ?_
        exact kf (by unfold undr overK; first | (simp only [decide_eq_true_eq, decide_eq_false_iff_not]; omega) | (subst_vars; decide))
      · refine wp_iconst dX1_isUnder_27 (by decide) ?_
        refine wp_zret rfl (by omega) dX1_isUnder_28 ?_
        exact kt (by unfold undr overK; first | (simp only [decide_eq_true_eq, decide_eq_false_iff_not]; omega) | (subst_vars; decide))
    · refine wp_iconst dX1_isUnder_27 (by decide) ?_
      refine wp_zret rfl (by omega) dX1_isUnder_28 ?_
      exact kt (by unfold undr overK; first | (simp only [decide_eq_true_eq, decide_eq_false_iff_not]; omega) | (subst_vars; decide))
