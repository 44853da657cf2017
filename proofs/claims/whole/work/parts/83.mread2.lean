/-! ===== the model's reader: the grammar, alive ===== -/
set_option maxRecDepth 20000 in
set_option maxHeartbeats 4000000 in
theorem lq_term0 {l : Launch} {g : Gw} {n : Nat} (hn : 90 ≤ n) {t : Nat} {f : Nat → Int} {z : Int} {e : Int → Int} {B : Nat} (hB8 : 12 ≤ B) (hB : BT f z) {o : Int} {P : Nat → PR} (hs : CMm l g n t f z e m_X8_atom0 [(9, 0)] B o P) (hq : ∀ x : Nat, (x : Int) ≤ z → PQ z x (P x)) {d : Nat} (hd : B + 1 ≤ d) : ∀ (m x : Nat) (ce : List Int) (vl : Vl) (v : Int) (M0 : Mm) (Q : Option Wd → Mm → Prop), z ≤ (x : Int) + m → RJm M0 t f z x o e → (x : Int) ≤ z → v = vl e → (∀ M' w, PoM M0 t f z o e (gL f z opT P m x ce vl) M' w → Q (some (0, w)) M') → Wp l g d 0 0 n m_X8_term0 5 [] [(2, 69), (0, v)] M0 Q := by
  intro m
  induction m with
  | zero =>
    intro x ce vl v M0 Q hm hJ hx hv k
    refine wp_aload_n dX8_term0_5 rfl rfl ?_
    refine wp_bipush dX8_term0_6 (by decide) (by decide) ?_
    refine wp_callV0 (d' := d - 1) cv_RX8_222 69 rfl [(0, 42)] [] rfl rfl (Or.inl ⟨_, _, rfl, by decide, rfl, by omega, by omega⟩) (by omega) (Nat.le_of_ble_eq_true rfl) dX8_term0_8 rfl (Nat.le_of_ble_eq_true rfl) (by omega) (loc1 := [(2, 69), (0, 42)]) rfl ?_
    refine sp_isSg hn hJ 42 (by decide) (fun t1 => absurd t1 (by rw [lxT_end (by omega)]; decide)) (fun t1 => ?_)
    refine wp_if_eq (tgt := 28) dX8_term0_11 (by decide) (fun _ => ?_) (fun h => absurd h (by decide))
    refine wp_iload_n dX8_term0_28 rfl rfl ?_
    refine wp_iret rfl dX8_term0_29 ?_
    exact k _ _ ⟨Fr.rf, hJ, hv⟩
  | succ m ih =>
    intro x ce vl v M0 Q hm hJ hx hv k
    refine wp_aload_n dX8_term0_5 rfl rfl ?_
    refine wp_bipush dX8_term0_6 (by decide) (by decide) ?_
    refine wp_callV0 (d' := d - 1) cv_RX8_222 69 rfl [(0, 42)] [] rfl rfl (Or.inl ⟨_, _, rfl, by decide, rfl, by omega, by omega⟩) (by omega) (Nat.le_of_ble_eq_true rfl) dX8_term0_8 rfl (Nat.le_of_ble_eq_true rfl) (by omega) (loc1 := [(2, 69), (0, 42)]) rfl ?_
    refine sp_isSg hn hJ 42 (by decide) (fun t1 => ?_) (fun t1 => ?_)
    · have g1 := ((hJ).2.1.2.2.sgn (s := 42) (by decide)).mpr t1
      refine wp_if_eq (tgt := 28) dX8_term0_11 (by decide) (fun h => absurd h (by decide)) (fun _ => ?_)
      refine wp_aload_n dX8_term0_14 rfl rfl ?_
      refine wp_callV0 (d' := d - 1) cv_RX8_197 69 rfl [] [] rfl rfl (Or.inl ⟨_, _, rfl, by decide, rfl, by omega, by omega⟩) (by omega) (Nat.le_of_ble_eq_true rfl) dX8_term0_15 rfl (Nat.le_of_ble_eq_true rfl) (by omega) (loc1 := [(2, 69), (9, 0), (9, 0)]) rfl ?_
      refine sp_next hn (by omega) hB (hJ).1 ((hJ).2.1.2.1 ((hJ).2.1.2.2.ne4 (by omega))) (lxN_le hx).1 (fun M2 f2 l2 => ?_)
      have J2 := (hJ).step f2 l2
      have F2 := ((Fr.rf : Fr VMr M0 M0)).tr (f2.mono VM1.r)
      have X2 := lxN_le (f := f) hx
      have Y2 := lxA_le (f := f) hx
      refine wp_iload_n dX8_term0_18 rfl rfl ?_
      refine wp_aload_n dX8_term0_19 rfl rfl ?_
      refine wp_callV0 (d' := d - 1) cv_RX8_327 69 rfl [] [(0, v)] rfl rfl (Or.inl ⟨_, _, rfl, by decide, rfl, by omega, by omega⟩) (by omega) (Nat.le_of_ble_eq_true rfl) dX8_term0_20 rfl (Nat.le_of_ble_eq_true rfl) (by omega) (loc1 := [(2, 69), (9, 0)]) rfl ?_
      refine hs _ _ _ _ (by omega) J2 X2.1 (fun M3 w3 q3 => ?_)
      obtain ⟨f3, q3⟩ := q3
      have F3 := (F2).tr f3
      have b3 := hq _ X2.1
      generalize r3 : P (lxN f z x) = u3 at q3 b3
      rcases u3 with p3 | ⟨y3, c3, v3⟩
      · have D3 : DJm M3 t f z p3 o e := q3
        refine wp_imulw dX8_term0_23 ?_
        refine wp_istore_n (loc' := [(2, 69), (0, (wrap (v * w3)))]) dX8_term0_24 rfl (Nat.le_of_ble_eq_true rfl) rfl ?_
        refine wp_goto (tgt := 5) dX8_term0_25 (by decide) ?_
        have eo : opT (lxT f z x) = -14 := if_pos t1
        have ee : gL f z opT P (m + 1) x ce vl = pbd (P (lxN f z x)) (fun y c' v' => gL f z opT P m y (ce ++ c' ++ [opT (lxT f z x)]) (fun e => jn (opT (lxT f z x)) (vl e) (v' e))) := if_neg (by rw [eo]; decide)
        rw [ee, r3] at k
        exact lqd_term0 hn (by omega) (D3) (fun M9 w9 f9 d9 => k M9 w9 ⟨(F3).tr f9, d9⟩)
      · obtain ⟨J3, e3⟩ : RJm M3 t f z y3 o e ∧ w3 = v3 e := q3
        obtain ⟨b3, B3, _⟩ : (lxN f z x) + c3.length ≤ y3 ∧ (y3 : Int) ≤ z ∧ _ := b3
        refine wp_imulw dX8_term0_23 ?_
        refine wp_istore_n (loc' := [(2, 69), (0, (wrap (v * w3)))]) dX8_term0_24 rfl (Nat.le_of_ble_eq_true rfl) rfl ?_
        refine wp_goto (tgt := 5) dX8_term0_25 (by decide) ?_
        have eo : opT (lxT f z x) = -14 := if_pos t1
        have ee : gL f z opT P (m + 1) x ce vl = pbd (P (lxN f z x)) (fun y c' v' => gL f z opT P m y (ce ++ c' ++ [opT (lxT f z x)]) (fun e => jn (opT (lxT f z x)) (vl e) (v' e))) := if_neg (by rw [eo]; decide)
        rw [ee, r3] at k
        have hv2 : (wrap (v * w3)) = jn (opT (lxT f z x)) (vl e) (v3 e) := by
          rw [eo, ← hv, ← e3, jn14]
        have hg := X2.2.2 (by omega)
        exact ih y3 _ (fun e => jn (opT (lxT f z x)) (vl e) (v3 e)) _ _ Q (by omega) J3 B3 hv2 (fun M9 w9 q9 => k M9 w9 ⟨(F3).tr q9.1, q9.2⟩)
    · refine wp_if_eq (tgt := 28) dX8_term0_11 (by decide) (fun _ => ?_) (fun h => absurd h (by decide))
      refine wp_iload_n dX8_term0_28 rfl rfl ?_
      refine wp_iret rfl dX8_term0_29 ?_
      have ee : gL f z opT P (m + 1) x ce vl = .inr (x, ce, vl) := if_pos (show opT (lxT f z x) = 0 from if_neg t1)
      rw [ee] at k
      exact k _ _ ⟨Fr.rf, hJ, hv⟩
set_option maxRecDepth 20000 in
set_option maxHeartbeats 4000000 in
theorem cm_term0 {l : Launch} {g : Gw} {n : Nat} (hn : 90 ≤ n) {t : Nat} {f : Nat → Int} {z : Int} {e : Int → Int} {B : Nat} (hB8 : 12 ≤ B) (hB : BT f z) {o : Int} {P : Nat → PR} (hs : CMm l g n t f z e m_X8_atom0 [(9, 0)] B o P) (hq : ∀ x : Nat, (x : Int) ≤ z → PQ z x (P x)) : CMm l g n t f z e m_X8_term0 [(9, 0)] (B + 1) o (gBn f z opT 160 P) := by
  intro d M0 Q x hd hJ hx k
  have hz1 := hJ.1.2.2.2.2.2.1
  refine wp_aload_n dX8_term0_0 rfl rfl ?_
  refine wp_callV0 (d' := d - 1) cv_RX8_327 69 rfl [] [] rfl rfl (Or.inl ⟨_, _, rfl, by decide, rfl, by omega, by omega⟩) (by omega) (Nat.le_of_ble_eq_true rfl) dX8_term0_1 rfl (Nat.le_of_ble_eq_true rfl) (by omega) (loc1 := [(2, 69), (9, 0)]) rfl ?_
  refine hs _ _ _ _ (by omega) hJ hx (fun M1 w1 q1 => ?_)
  obtain ⟨f1, q1⟩ := q1
  have F1 := ((Fr.rf : Fr VMr M0 M0)).tr f1
  have b1 := hq _ hx
  generalize r1 : P x = u1 at q1 b1
  rcases u1 with p1 | ⟨y1, c1, v1⟩
  · have D1 : DJm M1 t f z p1 o e := q1
    refine wp_istore_n (loc' := [(2, 69), (0, w1)]) dX8_term0_4 rfl (Nat.le_of_ble_eq_true rfl) rfl ?_
    have ee : gBn f z opT 160 P x = pbd (P x) (fun y c v => gL f z opT P 160 y c v) := rfl
    rw [ee, r1] at k
    exact lqd_term0 hn (by omega) (D1) (fun M9 w9 f9 d9 => k M9 w9 ⟨(F1).tr f9, d9⟩)
  · obtain ⟨J1, e1⟩ : RJm M1 t f z y1 o e ∧ w1 = v1 e := q1
    obtain ⟨b1, B1, _⟩ : x + c1.length ≤ y1 ∧ (y1 : Int) ≤ z ∧ _ := b1
    refine wp_istore_n (loc' := [(2, 69), (0, w1)]) dX8_term0_4 rfl (Nat.le_of_ble_eq_true rfl) rfl ?_
    have ee : gBn f z opT 160 P x = pbd (P x) (fun y c v => gL f z opT P 160 y c v) := rfl
    rw [ee, r1] at k
    exact lq_term0 hn hB8 hB hs hq hd 160 y1 c1 v1 w1 _ Q (by omega) J1 B1 e1 (fun M9 w9 q9 => k M9 w9 ⟨(F1).tr q9.1, q9.2⟩)
set_option maxRecDepth 20000 in
set_option maxHeartbeats 4000000 in
theorem lq_added0 {l : Launch} {g : Gw} {n : Nat} (hn : 90 ≤ n) {t : Nat} {f : Nat → Int} {z : Int} {e : Int → Int} {B : Nat} (hB8 : 12 ≤ B) (hB : BT f z) {o : Int} {P : Nat → PR} (hs : CMm l g n t f z e m_X8_term0 [(9, 0)] B o P) (hq : ∀ x : Nat, (x : Int) ≤ z → PQ z x (P x)) {d : Nat} (hd : B + 1 ≤ d) : ∀ (m x : Nat) (ce : List Int) (vl : Vl) (v : Int) (u2 : Wd) (u3 : Wd) (M0 : Mm) (Q : Option Wd → Mm → Prop), z ≤ (x : Int) + m → RJm M0 t f z x o e → (x : Int) ≤ z → v = vl e → (∀ M' w, PoM M0 t f z o e (gL f z opS P m x ce vl) M' w → Q (some (0, w)) M') → Wp l g d 0 0 n m_X8_added0 5 [] [(2, 69), (0, v), u2, u3] M0 Q := by
  intro m
  induction m with
  | zero =>
    intro x ce vl v u2 u3 M0 Q hm hJ hx hv k
    refine wp_aload_n dX8_added0_5 rfl rfl ?_
    refine wp_bipush dX8_added0_6 (by decide) (by decide) ?_
    refine wp_callV0 (d' := d - 1) cv_RX8_222 69 rfl [(0, 43)] [] rfl rfl (Or.inl ⟨_, _, rfl, by decide, rfl, by omega, by omega⟩) (by omega) (Nat.le_of_ble_eq_true rfl) dX8_added0_8 rfl (Nat.le_of_ble_eq_true rfl) (by omega) (loc1 := [(2, 69), (0, 43)]) rfl ?_
    refine sp_isSg hn hJ 43 (by decide) (fun t1 => absurd t1 (by rw [lxT_end (by omega)]; decide)) (fun t1 => ?_)
    refine wp_if_ne (tgt := 23) dX8_added0_11 (by decide) (fun h => absurd h (by decide)) (fun _ => ?_)
    refine wp_aload_n dX8_added0_14 rfl rfl ?_
    refine wp_bipush dX8_added0_15 (by decide) (by decide) ?_
    refine wp_callV0 (d' := d - 1) cv_RX8_222 69 rfl [(0, 45)] [] rfl rfl (Or.inl ⟨_, _, rfl, by decide, rfl, by omega, by omega⟩) (by omega) (Nat.le_of_ble_eq_true rfl) dX8_added0_17 rfl (Nat.le_of_ble_eq_true rfl) (by omega) (loc1 := [(2, 69), (0, 45)]) rfl ?_
    refine sp_isSg hn hJ 45 (by decide) (fun t2 => absurd t2 (by rw [lxT_end (by omega)]; decide)) (fun t2 => ?_)
    refine wp_if_eq (tgt := 66) dX8_added0_20 (by decide) (fun _ => ?_) (fun h => absurd h (by decide))
    refine wp_iload_n dX8_added0_66 rfl rfl ?_
    refine wp_iret rfl dX8_added0_67 ?_
    exact k _ _ ⟨Fr.rf, hJ, hv⟩
  | succ m ih =>
    intro x ce vl v u2 u3 M0 Q hm hJ hx hv k
    refine wp_aload_n dX8_added0_5 rfl rfl ?_
    refine wp_bipush dX8_added0_6 (by decide) (by decide) ?_
    refine wp_callV0 (d' := d - 1) cv_RX8_222 69 rfl [(0, 43)] [] rfl rfl (Or.inl ⟨_, _, rfl, by decide, rfl, by omega, by omega⟩) (by omega) (Nat.le_of_ble_eq_true rfl) dX8_added0_8 rfl (Nat.le_of_ble_eq_true rfl) (by omega) (loc1 := [(2, 69), (0, 43)]) rfl ?_
    refine sp_isSg hn hJ 43 (by decide) (fun t1 => ?_) (fun t1 => ?_)
    · have g1 := ((hJ).2.1.2.2.sgn (s := 43) (by decide)).mpr t1
      refine wp_if_ne (tgt := 23) dX8_added0_11 (by decide) (fun _ => ?_) (fun h => absurd h (by decide))
      refine wp_aload_n dX8_added0_23 rfl rfl ?_
      refine wp_get 69 rfl fl_RX8_175 rfl ⟨by omega, by omega⟩ dX8_added0_24 rfl (v := 43) (g1.2) ?_
      refine wp_ldc2 (x := 43) dX8_added0_27 kl_RX8_239 (by decide) (wr_l (by omega)) ?_
      refine wp_lcmp dX8_added0_30 ?_
      change Wp _ _ _ _ _ _ _ _ ((0, 0) :: _) _ _ _
      refine wp_if_ne (tgt := 38) dX8_added0_31 (by decide) (fun h => absurd h (by decide)) (fun _ => ?_)
      refine wp_iconst dX8_added0_34 (by decide) ?_
      refine wp_goto (tgt := 39) dX8_added0_35 (by decide) ?_
      refine wp_istore_n (loc' := [(2, 69), (0, v), (0, 1), u3]) dX8_added0_39 rfl (Nat.le_of_ble_eq_true rfl) rfl ?_
      refine wp_aload_n dX8_added0_40 rfl rfl ?_
      refine wp_callV0 (d' := d - 1) cv_RX8_197 69 rfl [] [] rfl rfl (Or.inl ⟨_, _, rfl, by decide, rfl, by omega, by omega⟩) (by omega) (Nat.le_of_ble_eq_true rfl) dX8_added0_41 rfl (Nat.le_of_ble_eq_true rfl) (by omega) (loc1 := [(2, 69), (9, 0), (9, 0)]) rfl ?_
      refine sp_next hn (by omega) hB (hJ).1 ((hJ).2.1.2.1 ((hJ).2.1.2.2.ne4 (by omega))) (lxN_le hx).1 (fun M2 f2 l2 => ?_)
      have J2 := (hJ).step f2 l2
      have F2 := ((Fr.rf : Fr VMr M0 M0)).tr (f2.mono VM1.r)
      have X2 := lxN_le (f := f) hx
      have Y2 := lxA_le (f := f) hx
      refine wp_aload_n dX8_added0_44 rfl rfl ?_
      refine wp_callV0 (d' := d - 1) cv_RX8_330 69 rfl [] [] rfl rfl (Or.inl ⟨_, _, rfl, by decide, rfl, by omega, by omega⟩) (by omega) (Nat.le_of_ble_eq_true rfl) dX8_added0_45 rfl (Nat.le_of_ble_eq_true rfl) (by omega) (loc1 := [(2, 69), (9, 0)]) rfl ?_
      refine hs _ _ _ _ (by omega) J2 X2.1 (fun M3 w3 q3 => ?_)
      obtain ⟨f3, q3⟩ := q3
      have F3 := (F2).tr f3
      have b3 := hq _ X2.1
      generalize r3 : P (lxN f z x) = u3 at q3 b3
      rcases u3 with p3 | ⟨y3, c3, v3⟩
      · have D3 : DJm M3 t f z p3 o e := q3
        refine wp_istore_n (loc' := [(2, 69), (0, v), (0, 1), (0, w3)]) dX8_added0_48 rfl (Nat.le_of_ble_eq_true rfl) rfl ?_
        refine wp_iload_n dX8_added0_49 rfl rfl ?_
        refine wp_if_eq (tgt := 59) dX8_added0_50 (by decide) (fun h => absurd h (by decide)) (fun _ => ?_)
        refine wp_iload_n dX8_added0_53 rfl rfl ?_
        refine wp_iload_n dX8_added0_54 rfl rfl ?_
        refine wp_iaddw dX8_added0_55 ?_
        refine wp_goto (tgt := 62) dX8_added0_56 (by decide) ?_
        refine wp_istore_n (loc' := [(2, 69), (0, (wrap (v + w3))), (0, 1), (0, w3)]) dX8_added0_62 rfl (Nat.le_of_ble_eq_true rfl) rfl ?_
        refine wp_goto (tgt := 5) dX8_added0_63 (by decide) ?_
        have eo : opS (lxT f z x) = -12 := if_pos t1
        have ee : gL f z opS P (m + 1) x ce vl = pbd (P (lxN f z x)) (fun y c' v' => gL f z opS P m y (ce ++ c' ++ [opS (lxT f z x)]) (fun e => jn (opS (lxT f z x)) (vl e) (v' e))) := if_neg (by rw [eo]; decide)
        rw [ee, r3] at k
        exact lqd_added0 hn (by omega) (D3) (fun M9 w9 f9 d9 => k M9 w9 ⟨(F3).tr f9, d9⟩)
      · obtain ⟨J3, e3⟩ : RJm M3 t f z y3 o e ∧ w3 = v3 e := q3
        obtain ⟨b3, B3, _⟩ : (lxN f z x) + c3.length ≤ y3 ∧ (y3 : Int) ≤ z ∧ _ := b3
        refine wp_istore_n (loc' := [(2, 69), (0, v), (0, 1), (0, w3)]) dX8_added0_48 rfl (Nat.le_of_ble_eq_true rfl) rfl ?_
        refine wp_iload_n dX8_added0_49 rfl rfl ?_
        refine wp_if_eq (tgt := 59) dX8_added0_50 (by decide) (fun h => absurd h (by decide)) (fun _ => ?_)
        refine wp_iload_n dX8_added0_53 rfl rfl ?_
        refine wp_iload_n dX8_added0_54 rfl rfl ?_
        refine wp_iaddw dX8_added0_55 ?_
        refine wp_goto (tgt := 62) dX8_added0_56 (by decide) ?_
        refine wp_istore_n (loc' := [(2, 69), (0, (wrap (v + w3))), (0, 1), (0, w3)]) dX8_added0_62 rfl (Nat.le_of_ble_eq_true rfl) rfl ?_
        refine wp_goto (tgt := 5) dX8_added0_63 (by decide) ?_
        have eo : opS (lxT f z x) = -12 := if_pos t1
        have ee : gL f z opS P (m + 1) x ce vl = pbd (P (lxN f z x)) (fun y c' v' => gL f z opS P m y (ce ++ c' ++ [opS (lxT f z x)]) (fun e => jn (opS (lxT f z x)) (vl e) (v' e))) := if_neg (by rw [eo]; decide)
        rw [ee, r3] at k
        have hv2 : (wrap (v + w3)) = jn (opS (lxT f z x)) (vl e) (v3 e) := by
          rw [eo, ← hv, ← e3, jn12]
        have hg := X2.2.2 (by omega)
        exact ih y3 _ (fun e => jn (opS (lxT f z x)) (vl e) (v3 e)) _ _ _ _ Q (by omega) J3 B3 hv2 (fun M9 w9 q9 => k M9 w9 ⟨(F3).tr q9.1, q9.2⟩)
    · refine wp_if_ne (tgt := 23) dX8_added0_11 (by decide) (fun h => absurd h (by decide)) (fun _ => ?_)
      refine wp_aload_n dX8_added0_14 rfl rfl ?_
      refine wp_bipush dX8_added0_15 (by decide) (by decide) ?_
      refine wp_callV0 (d' := d - 1) cv_RX8_222 69 rfl [(0, 45)] [] rfl rfl (Or.inl ⟨_, _, rfl, by decide, rfl, by omega, by omega⟩) (by omega) (Nat.le_of_ble_eq_true rfl) dX8_added0_17 rfl (Nat.le_of_ble_eq_true rfl) (by omega) (loc1 := [(2, 69), (0, 45)]) rfl ?_
      refine sp_isSg hn hJ 45 (by decide) (fun t4 => ?_) (fun t4 => ?_)
      · have g4 := ((hJ).2.1.2.2.sgn (s := 45) (by decide)).mpr t4
        refine wp_if_eq (tgt := 66) dX8_added0_20 (by decide) (fun h => absurd h (by decide)) (fun _ => ?_)
        refine wp_aload_n dX8_added0_23 rfl rfl ?_
        refine wp_get 69 rfl fl_RX8_175 rfl ⟨by omega, by omega⟩ dX8_added0_24 rfl (v := 45) (g4.2) ?_
        refine wp_ldc2 (x := 43) dX8_added0_27 kl_RX8_239 (by decide) (wr_l (by omega)) ?_
        refine wp_lcmp dX8_added0_30 ?_
        change Wp _ _ _ _ _ _ _ _ ((0, 1) :: _) _ _ _
        refine wp_if_ne (tgt := 38) dX8_added0_31 (by decide) (fun _ => ?_) (fun h => absurd h (by decide))
        refine wp_iconst dX8_added0_38 (by decide) ?_
        refine wp_istore_n (loc' := [(2, 69), (0, v), (0, 0), u3]) dX8_added0_39 rfl (Nat.le_of_ble_eq_true rfl) rfl ?_
        refine wp_aload_n dX8_added0_40 rfl rfl ?_
        refine wp_callV0 (d' := d - 1) cv_RX8_197 69 rfl [] [] rfl rfl (Or.inl ⟨_, _, rfl, by decide, rfl, by omega, by omega⟩) (by omega) (Nat.le_of_ble_eq_true rfl) dX8_added0_41 rfl (Nat.le_of_ble_eq_true rfl) (by omega) (loc1 := [(2, 69), (9, 0), (9, 0)]) rfl ?_
        refine sp_next hn (by omega) hB (hJ).1 ((hJ).2.1.2.1 ((hJ).2.1.2.2.ne4 (by omega))) (lxN_le hx).1 (fun M5 f5 l5 => ?_)
        have J5 := (hJ).step f5 l5
        have F5 := ((Fr.rf : Fr VMr M0 M0)).tr (f5.mono VM1.r)
        have X5 := lxN_le (f := f) hx
        have Y5 := lxA_le (f := f) hx
        refine wp_aload_n dX8_added0_44 rfl rfl ?_
        refine wp_callV0 (d' := d - 1) cv_RX8_330 69 rfl [] [] rfl rfl (Or.inl ⟨_, _, rfl, by decide, rfl, by omega, by omega⟩) (by omega) (Nat.le_of_ble_eq_true rfl) dX8_added0_45 rfl (Nat.le_of_ble_eq_true rfl) (by omega) (loc1 := [(2, 69), (9, 0)]) rfl ?_
        refine hs _ _ _ _ (by omega) J5 X5.1 (fun M6 w6 q6 => ?_)
        obtain ⟨f6, q6⟩ := q6
        have F6 := (F5).tr f6
        have b6 := hq _ X5.1
        generalize r6 : P (lxN f z x) = u6 at q6 b6
        rcases u6 with p6 | ⟨y6, c6, v6⟩
        · have D6 : DJm M6 t f z p6 o e := q6
          refine wp_istore_n (loc' := [(2, 69), (0, v), (0, 0), (0, w6)]) dX8_added0_48 rfl (Nat.le_of_ble_eq_true rfl) rfl ?_
          refine wp_iload_n dX8_added0_49 rfl rfl ?_
          refine wp_if_eq (tgt := 59) dX8_added0_50 (by decide) (fun _ => ?_) (fun h => absurd h (by decide))
          refine wp_iload_n dX8_added0_59 rfl rfl ?_
          refine wp_iload_n dX8_added0_60 rfl rfl ?_
          refine wp_isubw dX8_added0_61 ?_
          refine wp_istore_n (loc' := [(2, 69), (0, (wrap (v - w6))), (0, 0), (0, w6)]) dX8_added0_62 rfl (Nat.le_of_ble_eq_true rfl) rfl ?_
          refine wp_goto (tgt := 5) dX8_added0_63 (by decide) ?_
          have eo : opS (lxT f z x) = -13 := (if_neg t1).trans (if_pos t4)
          have ee : gL f z opS P (m + 1) x ce vl = pbd (P (lxN f z x)) (fun y c' v' => gL f z opS P m y (ce ++ c' ++ [opS (lxT f z x)]) (fun e => jn (opS (lxT f z x)) (vl e) (v' e))) := if_neg (by rw [eo]; decide)
          rw [ee, r6] at k
          exact lqd_added0 hn (by omega) (D6) (fun M9 w9 f9 d9 => k M9 w9 ⟨(F6).tr f9, d9⟩)
        · obtain ⟨J6, e6⟩ : RJm M6 t f z y6 o e ∧ w6 = v6 e := q6
          obtain ⟨b6, B6, _⟩ : (lxN f z x) + c6.length ≤ y6 ∧ (y6 : Int) ≤ z ∧ _ := b6
          refine wp_istore_n (loc' := [(2, 69), (0, v), (0, 0), (0, w6)]) dX8_added0_48 rfl (Nat.le_of_ble_eq_true rfl) rfl ?_
          refine wp_iload_n dX8_added0_49 rfl rfl ?_
          refine wp_if_eq (tgt := 59) dX8_added0_50 (by decide) (fun _ => ?_) (fun h => absurd h (by decide))
          refine wp_iload_n dX8_added0_59 rfl rfl ?_
          refine wp_iload_n dX8_added0_60 rfl rfl ?_
          refine wp_isubw dX8_added0_61 ?_
          refine wp_istore_n (loc' := [(2, 69), (0, (wrap (v - w6))), (0, 0), (0, w6)]) dX8_added0_62 rfl (Nat.le_of_ble_eq_true rfl) rfl ?_
          refine wp_goto (tgt := 5) dX8_added0_63 (by decide) ?_
          have eo : opS (lxT f z x) = -13 := (if_neg t1).trans (if_pos t4)
          have ee : gL f z opS P (m + 1) x ce vl = pbd (P (lxN f z x)) (fun y c' v' => gL f z opS P m y (ce ++ c' ++ [opS (lxT f z x)]) (fun e => jn (opS (lxT f z x)) (vl e) (v' e))) := if_neg (by rw [eo]; decide)
          rw [ee, r6] at k
          have hv2 : (wrap (v - w6)) = jn (opS (lxT f z x)) (vl e) (v6 e) := by
            rw [eo, ← hv, ← e6, jn13]
          have hg := X5.2.2 (by omega)
          exact ih y6 _ (fun e => jn (opS (lxT f z x)) (vl e) (v6 e)) _ _ _ _ Q (by omega) J6 B6 hv2 (fun M9 w9 q9 => k M9 w9 ⟨(F6).tr q9.1, q9.2⟩)
      · refine wp_if_eq (tgt := 66) dX8_added0_20 (by decide) (fun _ => ?_) (fun h => absurd h (by decide))
        refine wp_iload_n dX8_added0_66 rfl rfl ?_
        refine wp_iret rfl dX8_added0_67 ?_
        have ee : gL f z opS P (m + 1) x ce vl = .inr (x, ce, vl) := if_pos (show opS (lxT f z x) = 0 from (if_neg t1).trans (if_neg t4))
        rw [ee] at k
        exact k _ _ ⟨Fr.rf, hJ, hv⟩
set_option maxRecDepth 20000 in
set_option maxHeartbeats 4000000 in
theorem cm_added0 {l : Launch} {g : Gw} {n : Nat} (hn : 90 ≤ n) {t : Nat} {f : Nat → Int} {z : Int} {e : Int → Int} {B : Nat} (hB8 : 12 ≤ B) (hB : BT f z) {o : Int} {P : Nat → PR} (hs : CMm l g n t f z e m_X8_term0 [(9, 0)] B o P) (hq : ∀ x : Nat, (x : Int) ≤ z → PQ z x (P x)) : CMm l g n t f z e m_X8_added0 [(9, 0), (9, 0), (9, 0)] (B + 1) o (gBn f z opS 160 P) := by
  intro d M0 Q x hd hJ hx k
  have hz1 := hJ.1.2.2.2.2.2.1
  refine wp_aload_n dX8_added0_0 rfl rfl ?_
  refine wp_callV0 (d' := d - 1) cv_RX8_330 69 rfl [] [] rfl rfl (Or.inl ⟨_, _, rfl, by decide, rfl, by omega, by omega⟩) (by omega) (Nat.le_of_ble_eq_true rfl) dX8_added0_1 rfl (Nat.le_of_ble_eq_true rfl) (by omega) (loc1 := [(2, 69), (9, 0)]) rfl ?_
  refine hs _ _ _ _ (by omega) hJ hx (fun M1 w1 q1 => ?_)
  obtain ⟨f1, q1⟩ := q1
  have F1 := ((Fr.rf : Fr VMr M0 M0)).tr f1
  have b1 := hq _ hx
  generalize r1 : P x = u1 at q1 b1
  rcases u1 with p1 | ⟨y1, c1, v1⟩
  · have D1 : DJm M1 t f z p1 o e := q1
    refine wp_istore_n (loc' := [(2, 69), (0, w1), (9, 0), (9, 0)]) dX8_added0_4 rfl (Nat.le_of_ble_eq_true rfl) rfl ?_
    have ee : gBn f z opS 160 P x = pbd (P x) (fun y c v => gL f z opS P 160 y c v) := rfl
    rw [ee, r1] at k
    exact lqd_added0 hn (by omega) (D1) (fun M9 w9 f9 d9 => k M9 w9 ⟨(F1).tr f9, d9⟩)
  · obtain ⟨J1, e1⟩ : RJm M1 t f z y1 o e ∧ w1 = v1 e := q1
    obtain ⟨b1, B1, _⟩ : x + c1.length ≤ y1 ∧ (y1 : Int) ≤ z ∧ _ := b1
    refine wp_istore_n (loc' := [(2, 69), (0, w1), (9, 0), (9, 0)]) dX8_added0_4 rfl (Nat.le_of_ble_eq_true rfl) rfl ?_
    have ee : gBn f z opS 160 P x = pbd (P x) (fun y c v => gL f z opS P 160 y c v) := rfl
    rw [ee, r1] at k
    exact lq_added0 hn hB8 hB hs hq hd 160 y1 c1 v1 w1 _ _ _ Q (by omega) J1 B1 e1 (fun M9 w9 q9 => k M9 w9 ⟨(F1).tr q9.1, q9.2⟩)
set_option maxRecDepth 20000 in
set_option maxHeartbeats 4000000 in
theorem lq_both0 {l : Launch} {g : Gw} {n : Nat} (hn : 90 ≤ n) {t : Nat} {f : Nat → Int} {z : Int} {e : Int → Int} {B : Nat} (hB8 : 12 ≤ B) (hB : BT f z) {o : Int} {P : Nat → PR} (hs : CMm l g n t f z e m_X8_not0 [(9, 0), (9, 0), (9, 0)] B o P) (hq : ∀ x : Nat, (x : Int) ≤ z → PQ z x (P x)) {d : Nat} (hd : B + 1 ≤ d) : ∀ (m x : Nat) (ce : List Int) (vl : Vl) (v : Int) (u2 : Wd) (M0 : Mm) (Q : Option Wd → Mm → Prop), z ≤ (x : Int) + m → RJm M0 t f z x o e → (x : Int) ≤ z → v = vl e → (∀ M' w, PoM M0 t f z o e (gL f z opA P m x ce vl) M' w → Q (some (0, w)) M') → Wp l g d 0 0 n m_X8_both0 5 [] [(2, 69), (0, v), u2] M0 Q := by
  intro m
  induction m with
  | zero =>
    intro x ce vl v u2 M0 Q hm hJ hx hv k
    refine wp_aload_n dX8_both0_5 rfl rfl ?_
    refine wp_bipush dX8_both0_6 (by decide) (by decide) ?_
    refine wp_bipush dX8_both0_8 (by decide) (by decide) ?_
    refine wp_bipush dX8_both0_10 (by decide) (by decide) ?_
    refine wp_iconst dX8_both0_12 (by decide) ?_
    refine wp_iconst dX8_both0_13 (by decide) ?_
    refine wp_iconst dX8_both0_14 (by decide) ?_
    refine wp_iconst dX8_both0_15 (by decide) ?_
    refine wp_iconst dX8_both0_16 (by decide) ?_
    refine wp_callV0 (d' := d - 1) cv_RX8_200 69 rfl [(0, 97), (0, 110), (0, 100), (0, 0), (0, 0), (0, 0), (0, 0), (0, 0)] [] rfl rfl (Or.inl ⟨_, _, rfl, by decide, rfl, by omega, by omega⟩) (by omega) (Nat.le_of_ble_eq_true rfl) dX8_both0_17 rfl (Nat.le_of_ble_eq_true rfl) (by omega) (loc1 := [(2, 69), (0, 97), (0, 110), (0, 100), (0, 0), (0, 0), (0, 0), (0, 0), (0, 0)]) rfl ?_
    refine sp_isWm_4 hn (by omega) hJ hx (fun t1 => absurd t1 (by rw [lxT_end (by omega)]; decide)) (fun t1 => ?_)
    refine wp_if_eq (tgt := 49) dX8_both0_20 (by decide) (fun _ => ?_) (fun h => absurd h (by decide))
    refine wp_iload_n dX8_both0_49 rfl rfl ?_
    refine wp_iret rfl dX8_both0_50 ?_
    exact k _ _ ⟨Fr.rf, hJ, hv⟩
  | succ m ih =>
    intro x ce vl v u2 M0 Q hm hJ hx hv k
    refine wp_aload_n dX8_both0_5 rfl rfl ?_
    refine wp_bipush dX8_both0_6 (by decide) (by decide) ?_
    refine wp_bipush dX8_both0_8 (by decide) (by decide) ?_
    refine wp_bipush dX8_both0_10 (by decide) (by decide) ?_
    refine wp_iconst dX8_both0_12 (by decide) ?_
    refine wp_iconst dX8_both0_13 (by decide) ?_
    refine wp_iconst dX8_both0_14 (by decide) ?_
    refine wp_iconst dX8_both0_15 (by decide) ?_
    refine wp_iconst dX8_both0_16 (by decide) ?_
    refine wp_callV0 (d' := d - 1) cv_RX8_200 69 rfl [(0, 97), (0, 110), (0, 100), (0, 0), (0, 0), (0, 0), (0, 0), (0, 0)] [] rfl rfl (Or.inl ⟨_, _, rfl, by decide, rfl, by omega, by omega⟩) (by omega) (Nat.le_of_ble_eq_true rfl) dX8_both0_17 rfl (Nat.le_of_ble_eq_true rfl) (by omega) (loc1 := [(2, 69), (0, 97), (0, 110), (0, 100), (0, 0), (0, 0), (0, 0), (0, 0), (0, 0)]) rfl ?_
    refine sp_isWm_4 hn (by omega) hJ hx (fun t1 => ?_) (fun t1 => ?_)
    · refine wp_if_eq (tgt := 49) dX8_both0_20 (by decide) (fun h => absurd h (by decide)) (fun _ => ?_)
      refine wp_aload_n dX8_both0_23 rfl rfl ?_
      refine wp_callV0 (d' := d - 1) cv_RX8_197 69 rfl [] [] rfl rfl (Or.inl ⟨_, _, rfl, by decide, rfl, by omega, by omega⟩) (by omega) (Nat.le_of_ble_eq_true rfl) dX8_both0_24 rfl (Nat.le_of_ble_eq_true rfl) (by omega) (loc1 := [(2, 69), (9, 0), (9, 0)]) rfl ?_
      refine sp_next hn (by omega) hB (hJ).1 ((hJ).2.1.2.1 ((hJ).2.1.2.2.ne4 (by omega))) (lxN_le hx).1 (fun M2 f2 l2 => ?_)
      have J2 := (hJ).step f2 l2
      have F2 := ((Fr.rf : Fr VMr M0 M0)).tr (f2.mono VM1.r)
      have X2 := lxN_le (f := f) hx
      have Y2 := lxA_le (f := f) hx
      refine wp_aload_n dX8_both0_27 rfl rfl ?_
      refine wp_callV0 (d' := d - 1) cv_RX8_336 69 rfl [] [] rfl rfl (Or.inl ⟨_, _, rfl, by decide, rfl, by omega, by omega⟩) (by omega) (Nat.le_of_ble_eq_true rfl) dX8_both0_28 rfl (Nat.le_of_ble_eq_true rfl) (by omega) (loc1 := [(2, 69), (9, 0), (9, 0), (9, 0)]) rfl ?_
      refine hs _ _ _ _ (by omega) J2 X2.1 (fun M3 w3 q3 => ?_)
      obtain ⟨f3, q3⟩ := q3
      have F3 := (F2).tr f3
      have b3 := hq _ X2.1
      generalize r3 : P (lxN f z x) = u3 at q3 b3
      rcases u3 with p3 | ⟨y3, c3, v3⟩
      · have D3 : DJm M3 t f z p3 o e := q3
        refine wp_istore_n (loc' := [(2, 69), (0, v), (0, w3)]) dX8_both0_31 rfl (Nat.le_of_ble_eq_true rfl) rfl ?_
        refine wp_iload_n dX8_both0_32 rfl rfl ?_
        refine wp_if_eq (tgt := 44) dX8_both0_33 (by decide) (fun h33 => ?_) (fun h33 => ?_)
        · refine wp_iconst dX8_both0_44 (by decide) ?_
          refine wp_istore_n (loc' := [(2, 69), (0, 0), (0, w3)]) dX8_both0_45 rfl (Nat.le_of_ble_eq_true rfl) rfl ?_
          refine wp_goto (tgt := 5) dX8_both0_46 (by decide) ?_
          have eo : opA (lxT f z x) = -8 := if_pos t1
          have ee : gL f z opA P (m + 1) x ce vl = pbd (P (lxN f z x)) (fun y c' v' => gL f z opA P m y (ce ++ c' ++ [opA (lxT f z x)]) (fun e => jn (opA (lxT f z x)) (vl e) (v' e))) := if_neg (by rw [eo]; decide)
          rw [ee, r3] at k
          exact lqd_both0 hn (by omega) (D3) (fun M9 w9 f9 d9 => k M9 w9 ⟨(F3).tr f9, d9⟩)
        · refine wp_iload_n dX8_both0_36 rfl rfl ?_
          refine wp_if_eq (tgt := 44) dX8_both0_37 (by decide) (fun h37 => ?_) (fun h37 => ?_)
          · refine wp_iconst dX8_both0_44 (by decide) ?_
            refine wp_istore_n (loc' := [(2, 69), (0, 0), (0, w3)]) dX8_both0_45 rfl (Nat.le_of_ble_eq_true rfl) rfl ?_
            refine wp_goto (tgt := 5) dX8_both0_46 (by decide) ?_
            have eo : opA (lxT f z x) = -8 := if_pos t1
            have ee : gL f z opA P (m + 1) x ce vl = pbd (P (lxN f z x)) (fun y c' v' => gL f z opA P m y (ce ++ c' ++ [opA (lxT f z x)]) (fun e => jn (opA (lxT f z x)) (vl e) (v' e))) := if_neg (by rw [eo]; decide)
            rw [ee, r3] at k
            exact lqd_both0 hn (by omega) (D3) (fun M9 w9 f9 d9 => k M9 w9 ⟨(F3).tr f9, d9⟩)
          · refine wp_iconst dX8_both0_40 (by decide) ?_
            refine wp_goto (tgt := 45) dX8_both0_41 (by decide) ?_
            refine wp_istore_n (loc' := [(2, 69), (0, 1), (0, w3)]) dX8_both0_45 rfl (Nat.le_of_ble_eq_true rfl) rfl ?_
            refine wp_goto (tgt := 5) dX8_both0_46 (by decide) ?_
            have eo : opA (lxT f z x) = -8 := if_pos t1
            have ee : gL f z opA P (m + 1) x ce vl = pbd (P (lxN f z x)) (fun y c' v' => gL f z opA P m y (ce ++ c' ++ [opA (lxT f z x)]) (fun e => jn (opA (lxT f z x)) (vl e) (v' e))) := if_neg (by rw [eo]; decide)
            rw [ee, r3] at k
            exact lqd_both0 hn (by omega) (D3) (fun M9 w9 f9 d9 => k M9 w9 ⟨(F3).tr f9, d9⟩)
      · obtain ⟨J3, e3⟩ : RJm M3 t f z y3 o e ∧ w3 = v3 e := q3
        obtain ⟨b3, B3, _⟩ : (lxN f z x) + c3.length ≤ y3 ∧ (y3 : Int) ≤ z ∧ _ := b3
        refine wp_istore_n (loc' := [(2, 69), (0, v), (0, w3)]) dX8_both0_31 rfl (Nat.le_of_ble_eq_true rfl) rfl ?_
        refine wp_iload_n dX8_both0_32 rfl rfl ?_
        refine wp_if_eq (tgt := 44) dX8_both0_33 (by decide) (fun h33 => ?_) (fun h33 => ?_)
        · refine wp_iconst dX8_both0_44 (by decide) ?_
          refine wp_istore_n (loc' := [(2, 69), (0, 0), (0, w3)]) dX8_both0_45 rfl (Nat.le_of_ble_eq_true rfl) rfl ?_
          refine wp_goto (tgt := 5) dX8_both0_46 (by decide) ?_
          have eo : opA (lxT f z x) = -8 := if_pos t1
          have ee : gL f z opA P (m + 1) x ce vl = pbd (P (lxN f z x)) (fun y c' v' => gL f z opA P m y (ce ++ c' ++ [opA (lxT f z x)]) (fun e => jn (opA (lxT f z x)) (vl e) (v' e))) := if_neg (by rw [eo]; decide)
          rw [ee, r3] at k
          have hv2 : 0 = jn (opA (lxT f z x)) (vl e) (v3 e) := by
            rw [eo, ← hv, ← e3, jn8]
            first | exact (if_pos (by omega)).symm | exact (if_neg (by omega)).symm
          have hg := X2.2.2 (by omega)
          exact ih y3 _ (fun e => jn (opA (lxT f z x)) (vl e) (v3 e)) _ _ _ Q (by omega) J3 B3 hv2 (fun M9 w9 q9 => k M9 w9 ⟨(F3).tr q9.1, q9.2⟩)
        · refine wp_iload_n dX8_both0_36 rfl rfl ?_
          refine wp_if_eq (tgt := 44) dX8_both0_37 (by decide) (fun h37 => ?_) (fun h37 => ?_)
          · refine wp_iconst dX8_both0_44 (by decide) ?_
            refine wp_istore_n (loc' := [(2, 69), (0, 0), (0, w3)]) dX8_both0_45 rfl (Nat.le_of_ble_eq_true rfl) rfl ?_
            refine wp_goto (tgt := 5) dX8_both0_46 (by decide) ?_
            have eo : opA (lxT f z x) = -8 := if_pos t1
            have ee : gL f z opA P (m + 1) x ce vl = pbd (P (lxN f z x)) (fun y c' v' => gL f z opA P m y (ce ++ c' ++ [opA (lxT f z x)]) (fun e => jn (opA (lxT f z x)) (vl e) (v' e))) := if_neg (by rw [eo]; decide)
            rw [ee, r3] at k
            have hv2 : 0 = jn (opA (lxT f z x)) (vl e) (v3 e) := by
              rw [eo, ← hv, ← e3, jn8]
              first | exact (if_pos (by omega)).symm | exact (if_neg (by omega)).symm
            have hg := X2.2.2 (by omega)
            exact ih y3 _ (fun e => jn (opA (lxT f z x)) (vl e) (v3 e)) _ _ _ Q (by omega) J3 B3 hv2 (fun M9 w9 q9 => k M9 w9 ⟨(F3).tr q9.1, q9.2⟩)
          · refine wp_iconst dX8_both0_40 (by decide) ?_
            refine wp_goto (tgt := 45) dX8_both0_41 (by decide) ?_
            refine wp_istore_n (loc' := [(2, 69), (0, 1), (0, w3)]) dX8_both0_45 rfl (Nat.le_of_ble_eq_true rfl) rfl ?_
            refine wp_goto (tgt := 5) dX8_both0_46 (by decide) ?_
            have eo : opA (lxT f z x) = -8 := if_pos t1
            have ee : gL f z opA P (m + 1) x ce vl = pbd (P (lxN f z x)) (fun y c' v' => gL f z opA P m y (ce ++ c' ++ [opA (lxT f z x)]) (fun e => jn (opA (lxT f z x)) (vl e) (v' e))) := if_neg (by rw [eo]; decide)
            rw [ee, r3] at k
            have hv2 : 1 = jn (opA (lxT f z x)) (vl e) (v3 e) := by
              rw [eo, ← hv, ← e3, jn8]
              first | exact (if_pos (by omega)).symm | exact (if_neg (by omega)).symm
            have hg := X2.2.2 (by omega)
            exact ih y3 _ (fun e => jn (opA (lxT f z x)) (vl e) (v3 e)) _ _ _ Q (by omega) J3 B3 hv2 (fun M9 w9 q9 => k M9 w9 ⟨(F3).tr q9.1, q9.2⟩)
    · refine wp_if_eq (tgt := 49) dX8_both0_20 (by decide) (fun _ => ?_) (fun h => absurd h (by decide))
      refine wp_iload_n dX8_both0_49 rfl rfl ?_
      refine wp_iret rfl dX8_both0_50 ?_
      have ee : gL f z opA P (m + 1) x ce vl = .inr (x, ce, vl) := if_pos (show opA (lxT f z x) = 0 from if_neg t1)
      rw [ee] at k
      exact k _ _ ⟨Fr.rf, hJ, hv⟩
set_option maxRecDepth 20000 in
set_option maxHeartbeats 4000000 in
theorem cm_both0 {l : Launch} {g : Gw} {n : Nat} (hn : 90 ≤ n) {t : Nat} {f : Nat → Int} {z : Int} {e : Int → Int} {B : Nat} (hB8 : 12 ≤ B) (hB : BT f z) {o : Int} {P : Nat → PR} (hs : CMm l g n t f z e m_X8_not0 [(9, 0), (9, 0), (9, 0)] B o P) (hq : ∀ x : Nat, (x : Int) ≤ z → PQ z x (P x)) : CMm l g n t f z e m_X8_both0 [(9, 0), (9, 0)] (B + 1) o (gBn f z opA 160 P) := by
  intro d M0 Q x hd hJ hx k
  have hz1 := hJ.1.2.2.2.2.2.1
  refine wp_aload_n dX8_both0_0 rfl rfl ?_
  refine wp_callV0 (d' := d - 1) cv_RX8_336 69 rfl [] [] rfl rfl (Or.inl ⟨_, _, rfl, by decide, rfl, by omega, by omega⟩) (by omega) (Nat.le_of_ble_eq_true rfl) dX8_both0_1 rfl (Nat.le_of_ble_eq_true rfl) (by omega) (loc1 := [(2, 69), (9, 0), (9, 0), (9, 0)]) rfl ?_
  refine hs _ _ _ _ (by omega) hJ hx (fun M1 w1 q1 => ?_)
  obtain ⟨f1, q1⟩ := q1
  have F1 := ((Fr.rf : Fr VMr M0 M0)).tr f1
  have b1 := hq _ hx
  generalize r1 : P x = u1 at q1 b1
  rcases u1 with p1 | ⟨y1, c1, v1⟩
  · have D1 : DJm M1 t f z p1 o e := q1
    refine wp_istore_n (loc' := [(2, 69), (0, w1), (9, 0)]) dX8_both0_4 rfl (Nat.le_of_ble_eq_true rfl) rfl ?_
    have ee : gBn f z opA 160 P x = pbd (P x) (fun y c v => gL f z opA P 160 y c v) := rfl
    rw [ee, r1] at k
    exact lqd_both0 hn (by omega) (D1) (fun M9 w9 f9 d9 => k M9 w9 ⟨(F1).tr f9, d9⟩)
  · obtain ⟨J1, e1⟩ : RJm M1 t f z y1 o e ∧ w1 = v1 e := q1
    obtain ⟨b1, B1, _⟩ : x + c1.length ≤ y1 ∧ (y1 : Int) ≤ z ∧ _ := b1
    refine wp_istore_n (loc' := [(2, 69), (0, w1), (9, 0)]) dX8_both0_4 rfl (Nat.le_of_ble_eq_true rfl) rfl ?_
    have ee : gBn f z opA 160 P x = pbd (P x) (fun y c v => gL f z opA P 160 y c v) := rfl
    rw [ee, r1] at k
    exact lq_both0 hn hB8 hB hs hq hd 160 y1 c1 v1 w1 _ _ Q (by omega) J1 B1 e1 (fun M9 w9 q9 => k M9 w9 ⟨(F1).tr q9.1, q9.2⟩)
set_option maxRecDepth 20000 in
set_option maxHeartbeats 4000000 in
theorem lq_either0 {l : Launch} {g : Gw} {n : Nat} (hn : 90 ≤ n) {t : Nat} {f : Nat → Int} {z : Int} {e : Int → Int} {B : Nat} (hB8 : 12 ≤ B) (hB : BT f z) {o : Int} {P : Nat → PR} (hs : CMm l g n t f z e m_X8_both0 [(9, 0), (9, 0)] B o P) (hq : ∀ x : Nat, (x : Int) ≤ z → PQ z x (P x)) {d : Nat} (hd : B + 1 ≤ d) : ∀ (m x : Nat) (ce : List Int) (vl : Vl) (v : Int) (u2 : Wd) (M0 : Mm) (Q : Option Wd → Mm → Prop), z ≤ (x : Int) + m → RJm M0 t f z x o e → (x : Int) ≤ z → v = vl e → (∀ M' w, PoM M0 t f z o e (gL f z opO P m x ce vl) M' w → Q (some (0, w)) M') → Wp l g d 0 0 n m_X8_either0 5 [] [(2, 69), (0, v), u2] M0 Q := by
  intro m
  induction m with
  | zero =>
    intro x ce vl v u2 M0 Q hm hJ hx hv k
    refine wp_aload_n dX8_either0_5 rfl rfl ?_
    refine wp_bipush dX8_either0_6 (by decide) (by decide) ?_
    refine wp_bipush dX8_either0_8 (by decide) (by decide) ?_
    refine wp_iconst dX8_either0_10 (by decide) ?_
    refine wp_iconst dX8_either0_11 (by decide) ?_
    refine wp_iconst dX8_either0_12 (by decide) ?_
    refine wp_iconst dX8_either0_13 (by decide) ?_
    refine wp_iconst dX8_either0_14 (by decide) ?_
    refine wp_iconst dX8_either0_15 (by decide) ?_
    refine wp_callV0 (d' := d - 1) cv_RX8_200 69 rfl [(0, 111), (0, 114), (0, 0), (0, 0), (0, 0), (0, 0), (0, 0), (0, 0)] [] rfl rfl (Or.inl ⟨_, _, rfl, by decide, rfl, by omega, by omega⟩) (by omega) (Nat.le_of_ble_eq_true rfl) dX8_either0_16 rfl (Nat.le_of_ble_eq_true rfl) (by omega) (loc1 := [(2, 69), (0, 111), (0, 114), (0, 0), (0, 0), (0, 0), (0, 0), (0, 0), (0, 0)]) rfl ?_
    refine sp_isWm_3 hn (by omega) hJ hx (fun t1 => absurd t1 (by rw [lxT_end (by omega)]; decide)) (fun t1 => ?_)
    refine wp_if_eq (tgt := 48) dX8_either0_19 (by decide) (fun _ => ?_) (fun h => absurd h (by decide))
    refine wp_iload_n dX8_either0_48 rfl rfl ?_
    refine wp_iret rfl dX8_either0_49 ?_
    exact k _ _ ⟨Fr.rf, hJ, hv⟩
  | succ m ih =>
    intro x ce vl v u2 M0 Q hm hJ hx hv k
    refine wp_aload_n dX8_either0_5 rfl rfl ?_
    refine wp_bipush dX8_either0_6 (by decide) (by decide) ?_
    refine wp_bipush dX8_either0_8 (by decide) (by decide) ?_
    refine wp_iconst dX8_either0_10 (by decide) ?_
    refine wp_iconst dX8_either0_11 (by decide) ?_
    refine wp_iconst dX8_either0_12 (by decide) ?_
    refine wp_iconst dX8_either0_13 (by decide) ?_
    refine wp_iconst dX8_either0_14 (by decide) ?_
    refine wp_iconst dX8_either0_15 (by decide) ?_
    refine wp_callV0 (d' := d - 1) cv_RX8_200 69 rfl [(0, 111), (0, 114), (0, 0), (0, 0), (0, 0), (0, 0), (0, 0), (0, 0)] [] rfl rfl (Or.inl ⟨_, _, rfl, by decide, rfl, by omega, by omega⟩) (by omega) (Nat.le_of_ble_eq_true rfl) dX8_either0_16 rfl (Nat.le_of_ble_eq_true rfl) (by omega) (loc1 := [(2, 69), (0, 111), (0, 114), (0, 0), (0, 0), (0, 0), (0, 0), (0, 0), (0, 0)]) rfl ?_
    refine sp_isWm_3 hn (by omega) hJ hx (fun t1 => ?_) (fun t1 => ?_)
    · refine wp_if_eq (tgt := 48) dX8_either0_19 (by decide) (fun h => absurd h (by decide)) (fun _ => ?_)
      refine wp_aload_n dX8_either0_22 rfl rfl ?_
      refine wp_callV0 (d' := d - 1) cv_RX8_197 69 rfl [] [] rfl rfl (Or.inl ⟨_, _, rfl, by decide, rfl, by omega, by omega⟩) (by omega) (Nat.le_of_ble_eq_true rfl) dX8_either0_23 rfl (Nat.le_of_ble_eq_true rfl) (by omega) (loc1 := [(2, 69), (9, 0), (9, 0)]) rfl ?_
      refine sp_next hn (by omega) hB (hJ).1 ((hJ).2.1.2.1 ((hJ).2.1.2.2.ne4 (by omega))) (lxN_le hx).1 (fun M2 f2 l2 => ?_)
      have J2 := (hJ).step f2 l2
      have F2 := ((Fr.rf : Fr VMr M0 M0)).tr (f2.mono VM1.r)
      have X2 := lxN_le (f := f) hx
      have Y2 := lxA_le (f := f) hx
      refine wp_aload_n dX8_either0_26 rfl rfl ?_
      refine wp_callV0 (d' := d - 1) cv_RX8_339 69 rfl [] [] rfl rfl (Or.inl ⟨_, _, rfl, by decide, rfl, by omega, by omega⟩) (by omega) (Nat.le_of_ble_eq_true rfl) dX8_either0_27 rfl (Nat.le_of_ble_eq_true rfl) (by omega) (loc1 := [(2, 69), (9, 0), (9, 0)]) rfl ?_
      refine hs _ _ _ _ (by omega) J2 X2.1 (fun M3 w3 q3 => ?_)
      obtain ⟨f3, q3⟩ := q3
      have F3 := (F2).tr f3
      have b3 := hq _ X2.1
      generalize r3 : P (lxN f z x) = u3 at q3 b3
      rcases u3 with p3 | ⟨y3, c3, v3⟩
      · have D3 : DJm M3 t f z p3 o e := q3
        refine wp_istore_n (loc' := [(2, 69), (0, v), (0, w3)]) dX8_either0_30 rfl (Nat.le_of_ble_eq_true rfl) rfl ?_
        refine wp_iload_n dX8_either0_31 rfl rfl ?_
        refine wp_if_ne (tgt := 39) dX8_either0_32 (by decide) (fun h32 => ?_) (fun h32 => ?_)
        · refine wp_iconst dX8_either0_39 (by decide) ?_
          refine wp_goto (tgt := 44) dX8_either0_40 (by decide) ?_
          refine wp_istore_n (loc' := [(2, 69), (0, 1), (0, w3)]) dX8_either0_44 rfl (Nat.le_of_ble_eq_true rfl) rfl ?_
          refine wp_goto (tgt := 5) dX8_either0_45 (by decide) ?_
          have eo : opO (lxT f z x) = -7 := if_pos t1
          have ee : gL f z opO P (m + 1) x ce vl = pbd (P (lxN f z x)) (fun y c' v' => gL f z opO P m y (ce ++ c' ++ [opO (lxT f z x)]) (fun e => jn (opO (lxT f z x)) (vl e) (v' e))) := if_neg (by rw [eo]; decide)
          rw [ee, r3] at k
          exact lqd_either0 hn (by omega) (D3) (fun M9 w9 f9 d9 => k M9 w9 ⟨(F3).tr f9, d9⟩)
        · refine wp_iload_n dX8_either0_35 rfl rfl ?_
          refine wp_if_eq (tgt := 43) dX8_either0_36 (by decide) (fun h36 => ?_) (fun h36 => ?_)
          · refine wp_iconst dX8_either0_43 (by decide) ?_
            refine wp_istore_n (loc' := [(2, 69), (0, 0), (0, w3)]) dX8_either0_44 rfl (Nat.le_of_ble_eq_true rfl) rfl ?_
            refine wp_goto (tgt := 5) dX8_either0_45 (by decide) ?_
            have eo : opO (lxT f z x) = -7 := if_pos t1
            have ee : gL f z opO P (m + 1) x ce vl = pbd (P (lxN f z x)) (fun y c' v' => gL f z opO P m y (ce ++ c' ++ [opO (lxT f z x)]) (fun e => jn (opO (lxT f z x)) (vl e) (v' e))) := if_neg (by rw [eo]; decide)
            rw [ee, r3] at k
            exact lqd_either0 hn (by omega) (D3) (fun M9 w9 f9 d9 => k M9 w9 ⟨(F3).tr f9, d9⟩)
          · refine wp_iconst dX8_either0_39 (by decide) ?_
            refine wp_goto (tgt := 44) dX8_either0_40 (by decide) ?_
            refine wp_istore_n (loc' := [(2, 69), (0, 1), (0, w3)]) dX8_either0_44 rfl (Nat.le_of_ble_eq_true rfl) rfl ?_
            refine wp_goto (tgt := 5) dX8_either0_45 (by decide) ?_
            have eo : opO (lxT f z x) = -7 := if_pos t1
            have ee : gL f z opO P (m + 1) x ce vl = pbd (P (lxN f z x)) (fun y c' v' => gL f z opO P m y (ce ++ c' ++ [opO (lxT f z x)]) (fun e => jn (opO (lxT f z x)) (vl e) (v' e))) := if_neg (by rw [eo]; decide)
            rw [ee, r3] at k
            exact lqd_either0 hn (by omega) (D3) (fun M9 w9 f9 d9 => k M9 w9 ⟨(F3).tr f9, d9⟩)
      · obtain ⟨J3, e3⟩ : RJm M3 t f z y3 o e ∧ w3 = v3 e := q3
        obtain ⟨b3, B3, _⟩ : (lxN f z x) + c3.length ≤ y3 ∧ (y3 : Int) ≤ z ∧ _ := b3
        refine wp_istore_n (loc' := [(2, 69), (0, v), (0, w3)]) dX8_either0_30 rfl (Nat.le_of_ble_eq_true rfl) rfl ?_
        refine wp_iload_n dX8_either0_31 rfl rfl ?_
        refine wp_if_ne (tgt := 39) dX8_either0_32 (by decide) (fun h32 => ?_) (fun h32 => ?_)
        · refine wp_iconst dX8_either0_39 (by decide) ?_
          refine wp_goto (tgt := 44) dX8_either0_40 (by decide) ?_
          refine wp_istore_n (loc' := [(2, 69), (0, 1), (0, w3)]) dX8_either0_44 rfl (Nat.le_of_ble_eq_true rfl) rfl ?_
          refine wp_goto (tgt := 5) dX8_either0_45 (by decide) ?_
          have eo : opO (lxT f z x) = -7 := if_pos t1
          have ee : gL f z opO P (m + 1) x ce vl = pbd (P (lxN f z x)) (fun y c' v' => gL f z opO P m y (ce ++ c' ++ [opO (lxT f z x)]) (fun e => jn (opO (lxT f z x)) (vl e) (v' e))) := if_neg (by rw [eo]; decide)
          rw [ee, r3] at k
          have hv2 : 1 = jn (opO (lxT f z x)) (vl e) (v3 e) := by
            rw [eo, ← hv, ← e3, jn7]
            first | exact (if_pos (by omega)).symm | exact (if_neg (by omega)).symm
          have hg := X2.2.2 (by omega)
          exact ih y3 _ (fun e => jn (opO (lxT f z x)) (vl e) (v3 e)) _ _ _ Q (by omega) J3 B3 hv2 (fun M9 w9 q9 => k M9 w9 ⟨(F3).tr q9.1, q9.2⟩)
        · refine wp_iload_n dX8_either0_35 rfl rfl ?_
          refine wp_if_eq (tgt := 43) dX8_either0_36 (by decide) (fun h36 => ?_) (fun h36 => ?_)
          · refine wp_iconst dX8_either0_43 (by decide) ?_
            refine wp_istore_n (loc' := [(2, 69), (0, 0), (0, w3)]) dX8_either0_44 rfl (Nat.le_of_ble_eq_true rfl) rfl ?_
            refine wp_goto (tgt := 5) dX8_either0_45 (by decide) ?_
            have eo : opO (lxT f z x) = -7 := if_pos t1
            have ee : gL f z opO P (m + 1) x ce vl = pbd (P (lxN f z x)) (fun y c' v' => gL f z opO P m y (ce ++ c' ++ [opO (lxT f z x)]) (fun e => jn (opO (lxT f z x)) (vl e) (v' e))) := if_neg (by rw [eo]; decide)
            rw [ee, r3] at k
            have hv2 : 0 = jn (opO (lxT f z x)) (vl e) (v3 e) := by
              rw [eo, ← hv, ← e3, jn7]
              first | exact (if_pos (by omega)).symm | exact (if_neg (by omega)).symm
            have hg := X2.2.2 (by omega)
            exact ih y3 _ (fun e => jn (opO (lxT f z x)) (vl e) (v3 e)) _ _ _ Q (by omega) J3 B3 hv2 (fun M9 w9 q9 => k M9 w9 ⟨(F3).tr q9.1, q9.2⟩)
          · refine wp_iconst dX8_either0_39 (by decide) ?_
            refine wp_goto (tgt := 44) dX8_either0_40 (by decide) ?_
            refine wp_istore_n (loc' := [(2, 69), (0, 1), (0, w3)]) dX8_either0_44 rfl (Nat.le_of_ble_eq_true rfl) rfl ?_
            refine wp_goto (tgt := 5) dX8_either0_45 (by decide) ?_
            have eo : opO (lxT f z x) = -7 := if_pos t1
            have ee : gL f z opO P (m + 1) x ce vl = pbd (P (lxN f z x)) (fun y c' v' => gL f z opO P m y (ce ++ c' ++ [opO (lxT f z x)]) (fun e => jn (opO (lxT f z x)) (vl e) (v' e))) := if_neg (by rw [eo]; decide)
            rw [ee, r3] at k
            have hv2 : 1 = jn (opO (lxT f z x)) (vl e) (v3 e) := by
              rw [eo, ← hv, ← e3, jn7]
              first | exact (if_pos (by omega)).symm | exact (if_neg (by omega)).symm
            have hg := X2.2.2 (by omega)
            exact ih y3 _ (fun e => jn (opO (lxT f z x)) (vl e) (v3 e)) _ _ _ Q (by omega) J3 B3 hv2 (fun M9 w9 q9 => k M9 w9 ⟨(F3).tr q9.1, q9.2⟩)
    · refine wp_if_eq (tgt := 48) dX8_either0_19 (by decide) (fun _ => ?_) (fun h => absurd h (by decide))
      refine wp_iload_n dX8_either0_48 rfl rfl ?_
      refine wp_iret rfl dX8_either0_49 ?_
      have ee : gL f z opO P (m + 1) x ce vl = .inr (x, ce, vl) := if_pos (show opO (lxT f z x) = 0 from if_neg t1)
      rw [ee] at k
      exact k _ _ ⟨Fr.rf, hJ, hv⟩
set_option maxRecDepth 20000 in
set_option maxHeartbeats 4000000 in
theorem cm_either0 {l : Launch} {g : Gw} {n : Nat} (hn : 90 ≤ n) {t : Nat} {f : Nat → Int} {z : Int} {e : Int → Int} {B : Nat} (hB8 : 12 ≤ B) (hB : BT f z) {o : Int} {P : Nat → PR} (hs : CMm l g n t f z e m_X8_both0 [(9, 0), (9, 0)] B o P) (hq : ∀ x : Nat, (x : Int) ≤ z → PQ z x (P x)) : CMm l g n t f z e m_X8_either0 [(9, 0), (9, 0)] (B + 1) o (gBn f z opO 160 P) := by
  intro d M0 Q x hd hJ hx k
  have hz1 := hJ.1.2.2.2.2.2.1
  refine wp_aload_n dX8_either0_0 rfl rfl ?_
  refine wp_callV0 (d' := d - 1) cv_RX8_339 69 rfl [] [] rfl rfl (Or.inl ⟨_, _, rfl, by decide, rfl, by omega, by omega⟩) (by omega) (Nat.le_of_ble_eq_true rfl) dX8_either0_1 rfl (Nat.le_of_ble_eq_true rfl) (by omega) (loc1 := [(2, 69), (9, 0), (9, 0)]) rfl ?_
  refine hs _ _ _ _ (by omega) hJ hx (fun M1 w1 q1 => ?_)
  obtain ⟨f1, q1⟩ := q1
  have F1 := ((Fr.rf : Fr VMr M0 M0)).tr f1
  have b1 := hq _ hx
  generalize r1 : P x = u1 at q1 b1
  rcases u1 with p1 | ⟨y1, c1, v1⟩
  · have D1 : DJm M1 t f z p1 o e := q1
    refine wp_istore_n (loc' := [(2, 69), (0, w1), (9, 0)]) dX8_either0_4 rfl (Nat.le_of_ble_eq_true rfl) rfl ?_
    have ee : gBn f z opO 160 P x = pbd (P x) (fun y c v => gL f z opO P 160 y c v) := rfl
    rw [ee, r1] at k
    exact lqd_either0 hn (by omega) (D1) (fun M9 w9 f9 d9 => k M9 w9 ⟨(F1).tr f9, d9⟩)
  · obtain ⟨J1, e1⟩ : RJm M1 t f z y1 o e ∧ w1 = v1 e := q1
    obtain ⟨b1, B1, _⟩ : x + c1.length ≤ y1 ∧ (y1 : Int) ≤ z ∧ _ := b1
    refine wp_istore_n (loc' := [(2, 69), (0, w1), (9, 0)]) dX8_either0_4 rfl (Nat.le_of_ble_eq_true rfl) rfl ?_
    have ee : gBn f z opO 160 P x = pbd (P x) (fun y c v => gL f z opO P 160 y c v) := rfl
    rw [ee, r1] at k
    exact lq_either0 hn hB8 hB hs hq hd 160 y1 c1 v1 w1 _ _ Q (by omega) J1 B1 e1 (fun M9 w9 q9 => k M9 w9 ⟨(F1).tr q9.1, q9.2⟩)
set_option maxRecDepth 20000 in
set_option maxHeartbeats 4000000 in
theorem cm_atom0 {l : Launch} {g : Gw} {n : Nat} (hn : 90 ≤ n) {t : Nat} {f : Nat → Int} {z : Int} {e : Int → Int} {B : Nat} (hB8 : 12 ≤ B) (hB : BT f z) {o : Int} (ho : 0 ≤ o ∧ o < 5) {q : P3} (hq : OK3 z q) (hs1 : CMm l g n t f z e m_X8_atom1 [(9, 0)] B (o + 1) q.1) (hs3 : CMm l g n t f z e m_X8_either1 [(9, 0), (9, 0)] B (o + 1) q.2.2) : CMm l g n t f z e m_X8_atom0 [(9, 0)] (B + 1) o (oneP f z (some q)) := by
  intro d M0 Q x hd hJ hx k
  have hz1 := hJ.1.2.2.2.2.2.1
  refine wp_iconst dX8_atom0_0 (by decide) ?_
  refine wp_istore_n (loc' := [(2, 69), (0, 0)]) dX8_atom0_1 rfl (Nat.le_of_ble_eq_true rfl) rfl ?_
  refine wp_aload_n dX8_atom0_2 rfl rfl ?_
  refine wp_bipush dX8_atom0_3 (by decide) (by decide) ?_
  refine wp_callV0 (d' := d - 1) cv_RX8_222 69 rfl [(0, 45)] [] rfl rfl (Or.inl ⟨_, _, rfl, by decide, rfl, by omega, by omega⟩) (by omega) (Nat.le_of_ble_eq_true rfl) dX8_atom0_5 rfl (Nat.le_of_ble_eq_true rfl) (by omega) (loc1 := [(2, 69), (0, 45)]) rfl ?_
  refine sp_isSg hn hJ 45 (by decide) (fun t1 => ?_) (fun t1 => ?_)
  · have g1 := ((hJ).2.1.2.2.sgn (s := 45) (by decide)).mpr t1
    refine wp_if_eq (tgt := 37) dX8_atom0_8 (by decide) (fun h => absurd h (by decide)) (fun _ => ?_)
    refine wp_aload_n dX8_atom0_11 rfl rfl ?_
    refine wp_callV0 (d' := d - 1) cv_RX8_225 69 rfl [] [] rfl rfl (Or.inl ⟨_, _, rfl, by decide, rfl, by omega, by omega⟩) (by omega) (Nat.le_of_ble_eq_true rfl) dX8_atom0_12 rfl (Nat.le_of_ble_eq_true rfl) (by omega) (loc1 := [(2, 69)]) rfl ?_
    refine sp_opensm hn (by omega) hB hJ hx ho (by omega) (fun M2 J2 f2 => ?_)
    have F2 := ((Fr.rf : Fr VMr M0 M0)).tr f2
    have X2 := lxN_le (f := f) hx
    have Y2 := lxA_le (f := f) hx
    refine wp_if_eq (tgt := 161) dX8_atom0_15 (by decide) (fun h => absurd h (by decide)) (fun _ => ?_)
    refine wp_aload_n dX8_atom0_18 rfl rfl ?_
    refine wp_callV0 (d' := d - 1) cv_RX8_309 69 rfl [] [] rfl rfl (Or.inl ⟨_, _, rfl, by decide, rfl, by omega, by omega⟩) (by omega) (Nat.le_of_ble_eq_true rfl) dX8_atom0_19 rfl (Nat.le_of_ble_eq_true rfl) (by omega) (loc1 := [(2, 69), (9, 0)]) rfl ?_
    refine hs1 _ _ _ _ (by omega) J2 X2.1 (fun M3 w3 q3 => ?_)
    obtain ⟨f3, q3⟩ := q3
    have F3 := (F2).tr f3
    have b3 := hq.1 _ X2.1
    generalize r3 : q.1 (lxN f z x) = u3 at q3 b3
    rcases u3 with p3 | ⟨y3, c3, v3⟩
    · have D3 : DJm M3 t f z p3 (o + 1) e := q3
      refine wp_ineg dX8_atom0_22 ?_
      refine wp_istore_n (loc' := [(2, 69), (0, (wrap (-w3)))]) dX8_atom0_23 rfl (Nat.le_of_ble_eq_true rfl) rfl ?_
      refine wp_aload_n dX8_atom0_24 rfl rfl ?_
      refine wp_dup dX8_atom0_25 (Or.inr rfl) ?_
      refine wp_get 69 rfl fl_RX8_191 rfl ⟨by omega, by omega⟩ dX8_atom0_26 rfl (v := (o + 1)) (D3.2.1) ?_
      refine wp_iconst dX8_atom0_29 (by decide) ?_
      refine wp_isub dX8_atom0_30 (by omega) ?_
      refine wp_puti 69 rfl fl_RX8_191 rfl ⟨by omega, by omega⟩ dX8_atom0_31 rfl rfl ?_
      refine wp_goto (tgt := 161) dX8_atom0_34 (by decide) ?_
      refine wp_iload_n dX8_atom0_161 rfl rfl ?_
      refine wp_iret rfl dX8_atom0_162 ?_
      have J4 := (D3).opn (show ((o + 1) - 1) = o by omega)
      have B4 : Fr VMr M0 (mu M3 69 25 ((o + 1) - 1)) := (F3).tr fm25
      generalize (mu M3 69 25 ((o + 1) - 1)) = N4 at J4 B4 ⊢
      have ee : oneP f z (some q) x = pbd (q.1 (lxN f z x)) (fun y c v => .inr (y, c ++ [-15], fun e => wrap (-(v e)))) := (if_neg (by omega)).trans ((if_neg (by omega)).trans (if_pos t1))
      rw [ee, r3] at k
      exact k _ _ ⟨B4, J4⟩
    · obtain ⟨J3, e3⟩ : RJm M3 t f z y3 (o + 1) e ∧ w3 = v3 e := q3
      obtain ⟨b3, B3, _⟩ : (lxN f z x) + c3.length ≤ y3 ∧ (y3 : Int) ≤ z ∧ _ := b3
      refine wp_ineg dX8_atom0_22 ?_
      refine wp_istore_n (loc' := [(2, 69), (0, (wrap (-w3)))]) dX8_atom0_23 rfl (Nat.le_of_ble_eq_true rfl) rfl ?_
      refine wp_aload_n dX8_atom0_24 rfl rfl ?_
      refine wp_dup dX8_atom0_25 (Or.inr rfl) ?_
      refine wp_get 69 rfl fl_RX8_191 rfl ⟨by omega, by omega⟩ dX8_atom0_26 rfl (v := (o + 1)) (J3.2.2.1) ?_
      refine wp_iconst dX8_atom0_29 (by decide) ?_
      refine wp_isub dX8_atom0_30 (by omega) ?_
      refine wp_puti 69 rfl fl_RX8_191 rfl ⟨by omega, by omega⟩ dX8_atom0_31 rfl rfl ?_
      refine wp_goto (tgt := 161) dX8_atom0_34 (by decide) ?_
      refine wp_iload_n dX8_atom0_161 rfl rfl ?_
      refine wp_iret rfl dX8_atom0_162 ?_
      have J5 := (J3).opn (show ((o + 1) - 1) = o by omega)
      have B5 : Fr VMr M0 (mu M3 69 25 ((o + 1) - 1)) := (F3).tr fm25
      generalize (mu M3 69 25 ((o + 1) - 1)) = N5 at J5 B5 ⊢
      have ee : oneP f z (some q) x = pbd (q.1 (lxN f z x)) (fun y c v => .inr (y, c ++ [-15], fun e => wrap (-(v e)))) := (if_neg (by omega)).trans ((if_neg (by omega)).trans (if_pos t1))
      rw [ee, r3] at k
      exact k _ _ ⟨B5, J5, by rw [e3]⟩
  · refine wp_if_eq (tgt := 37) dX8_atom0_8 (by decide) (fun _ => ?_) (fun h => absurd h (by decide))
    refine wp_aload_n dX8_atom0_37 rfl rfl ?_
    refine wp_bipush dX8_atom0_38 (by decide) (by decide) ?_
    refine wp_callV0 (d' := d - 1) cv_RX8_222 69 rfl [(0, 40)] [] rfl rfl (Or.inl ⟨_, _, rfl, by decide, rfl, by omega, by omega⟩) (by omega) (Nat.le_of_ble_eq_true rfl) dX8_atom0_40 rfl (Nat.le_of_ble_eq_true rfl) (by omega) (loc1 := [(2, 69), (0, 40)]) rfl ?_
    refine sp_isSg hn hJ 40 (by decide) (fun t6 => ?_) (fun t6 => ?_)
    · have g6 := ((hJ).2.1.2.2.sgn (s := 40) (by decide)).mpr t6
      refine wp_if_eq (tgt := 95) dX8_atom0_43 (by decide) (fun h => absurd h (by decide)) (fun _ => ?_)
      refine wp_aload_n dX8_atom0_46 rfl rfl ?_
      refine wp_callV0 (d' := d - 1) cv_RX8_225 69 rfl [] [] rfl rfl (Or.inl ⟨_, _, rfl, by decide, rfl, by omega, by omega⟩) (by omega) (Nat.le_of_ble_eq_true rfl) dX8_atom0_47 rfl (Nat.le_of_ble_eq_true rfl) (by omega) (loc1 := [(2, 69)]) rfl ?_
      refine sp_opensm hn (by omega) hB hJ hx ho (by omega) (fun M7 J7 f7 => ?_)
      have F7 := ((Fr.rf : Fr VMr M0 M0)).tr f7
      have X7 := lxN_le (f := f) hx
      have Y7 := lxA_le (f := f) hx
      refine wp_if_eq (tgt := 161) dX8_atom0_50 (by decide) (fun h => absurd h (by decide)) (fun _ => ?_)
      refine wp_aload_n dX8_atom0_53 rfl rfl ?_
      refine wp_callV0 (d' := d - 1) cv_RX8_324 69 rfl [] [] rfl rfl (Or.inl ⟨_, _, rfl, by decide, rfl, by omega, by omega⟩) (by omega) (Nat.le_of_ble_eq_true rfl) dX8_atom0_54 rfl (Nat.le_of_ble_eq_true rfl) (by omega) (loc1 := [(2, 69), (9, 0), (9, 0)]) rfl ?_
      refine hs3 _ _ _ _ (by omega) J7 X7.1 (fun M8 w8 q8 => ?_)
      obtain ⟨f8, q8⟩ := q8
      have F8 := (F7).tr f8
      have b8 := hq.2.2 _ X7.1
      generalize r8 : q.2.2 (lxN f z x) = u8 at q8 b8
      rcases u8 with p8 | ⟨y8, c8, v8⟩
      · have D8 : DJm M8 t f z p8 (o + 1) e := q8
        refine wp_istore_n (loc' := [(2, 69), (0, w8)]) dX8_atom0_57 rfl (Nat.le_of_ble_eq_true rfl) rfl ?_
        refine wp_aload_n dX8_atom0_58 rfl rfl ?_
        refine wp_bipush dX8_atom0_59 (by decide) (by decide) ?_
        refine wp_callV0 (d' := d - 1) cv_RX8_222 69 rfl [(0, 41)] [] rfl rfl (Or.inl ⟨_, _, rfl, by decide, rfl, by omega, by omega⟩) (by omega) (Nat.le_of_ble_eq_true rfl) dX8_atom0_61 rfl (Nat.le_of_ble_eq_true rfl) (by omega) (loc1 := [(2, 69), (0, 41)]) rfl ?_
        refine sp_isSd hn D8 ?_
        refine wp_if_ne (tgt := 71) dX8_atom0_64 (by decide) (fun h => absurd h (by decide)) (fun _ => ?_)
        refine wp_aload_n dX8_atom0_67 rfl rfl ?_
        refine wp_callV0 (d' := d - 1) cv_RX8_194 69 rfl [] [] rfl rfl (Or.inl ⟨_, _, rfl, by decide, rfl, by omega, by omega⟩) (by omega) (Nat.le_of_ble_eq_true rfl) dX8_atom0_68 rfl (Nat.le_of_ble_eq_true rfl) (by omega) (loc1 := [(2, 69)]) rfl ?_
        refine sp_failmD hn D8 ?_
        refine wp_aload_n dX8_atom0_71 rfl rfl ?_
        refine wp_dup dX8_atom0_72 (Or.inr rfl) ?_
        refine wp_get 69 rfl fl_RX8_191 rfl ⟨by omega, by omega⟩ dX8_atom0_73 rfl (v := (o + 1)) (D8.2.1) ?_
        refine wp_iconst dX8_atom0_76 (by decide) ?_
        refine wp_isub dX8_atom0_77 (by omega) ?_
        refine wp_puti 69 rfl fl_RX8_191 rfl ⟨by omega, by omega⟩ dX8_atom0_78 rfl rfl ?_
        refine wp_aload_n dX8_atom0_81 rfl rfl ?_
        refine wp_get 69 rfl fl_RX8_181 rfl ⟨by omega, by omega⟩ dX8_atom0_82 rfl (v := 1) (D8.2.2.1) ?_
        refine wp_if_ne (tgt := 161) dX8_atom0_85 (by decide) (fun _ => ?_) (fun h => absurd h (by decide))
        refine wp_iload_n dX8_atom0_161 rfl rfl ?_
        refine wp_iret rfl dX8_atom0_162 ?_
        have J11 := (D8).opn (show ((o + 1) - 1) = o by omega)
        have B11 : Fr VMr M0 (mu M8 69 25 ((o + 1) - 1)) := (F8).tr fm25
        generalize (mu M8 69 25 ((o + 1) - 1)) = N11 at J11 B11 ⊢
        have ee : oneP f z (some q) x = pbd (q.2.2 (lxN f z x)) (fun y c v => if lxT f z y = 41 then .inr (lxN f z y, c, v) else .inl (lxA f z y)) := (if_neg (by omega)).trans ((if_neg (by omega)).trans ((if_neg t1).trans (if_pos t6)))
        rw [ee, r8] at k
        exact k _ _ ⟨B11, J11⟩
      · obtain ⟨J8, e8⟩ : RJm M8 t f z y8 (o + 1) e ∧ w8 = v8 e := q8
        obtain ⟨b8, B8, _⟩ : (lxN f z x) + c8.length ≤ y8 ∧ (y8 : Int) ≤ z ∧ _ := b8
        refine wp_istore_n (loc' := [(2, 69), (0, w8)]) dX8_atom0_57 rfl (Nat.le_of_ble_eq_true rfl) rfl ?_
        refine wp_aload_n dX8_atom0_58 rfl rfl ?_
        refine wp_bipush dX8_atom0_59 (by decide) (by decide) ?_
        refine wp_callV0 (d' := d - 1) cv_RX8_222 69 rfl [(0, 41)] [] rfl rfl (Or.inl ⟨_, _, rfl, by decide, rfl, by omega, by omega⟩) (by omega) (Nat.le_of_ble_eq_true rfl) dX8_atom0_61 rfl (Nat.le_of_ble_eq_true rfl) (by omega) (loc1 := [(2, 69), (0, 41)]) rfl ?_
        refine sp_isSg hn J8 41 (by decide) (fun t12 => ?_) (fun t12 => ?_)
        · have g12 := ((J8).2.1.2.2.sgn (s := 41) (by decide)).mpr t12
          refine wp_if_ne (tgt := 71) dX8_atom0_64 (by decide) (fun _ => ?_) (fun h => absurd h (by decide))
          refine wp_aload_n dX8_atom0_71 rfl rfl ?_
          refine wp_dup dX8_atom0_72 (Or.inr rfl) ?_
          refine wp_get 69 rfl fl_RX8_191 rfl ⟨by omega, by omega⟩ dX8_atom0_73 rfl (v := (o + 1)) (J8.2.2.1) ?_
          refine wp_iconst dX8_atom0_76 (by decide) ?_
          refine wp_isub dX8_atom0_77 (by omega) ?_
          refine wp_puti 69 rfl fl_RX8_191 rfl ⟨by omega, by omega⟩ dX8_atom0_78 rfl rfl ?_
          refine wp_aload_n dX8_atom0_81 rfl rfl ?_
          refine wp_get 69 rfl fl_RX8_181 rfl ⟨by omega, by omega⟩ dX8_atom0_82 rfl (v := 0) (J8.2.2.2.1) ?_
          refine wp_if_ne (tgt := 161) dX8_atom0_85 (by decide) (fun h => absurd h (by decide)) (fun _ => ?_)
          refine wp_aload_n dX8_atom0_88 rfl rfl ?_
          refine wp_callV0 (d' := d - 1) cv_RX8_197 69 rfl [] [] rfl rfl (Or.inl ⟨_, _, rfl, by decide, rfl, by omega, by omega⟩) (by omega) (Nat.le_of_ble_eq_true rfl) dX8_atom0_89 rfl (Nat.le_of_ble_eq_true rfl) (by omega) (loc1 := [(2, 69), (9, 0), (9, 0)]) rfl ?_
          have J13 := (J8).opn (show ((o + 1) - 1) = o by omega)
          have B13 : Fr VMr M0 (mu M8 69 25 ((o + 1) - 1)) := (F8).tr fm25
          generalize (mu M8 69 25 ((o + 1) - 1)) = N13 at J13 B13 ⊢
          refine sp_next hn (by omega) hB (J13).1 ((J13).2.1.2.1 ((J13).2.1.2.2.ne4 (by omega))) (lxN_le B8).1 (fun M14 f14 l14 => ?_)
          have J14 := (J13).step f14 l14
          have F14 := (B13).tr (f14.mono VM1.r)
          have X14 := lxN_le (f := f) B8
          have Y14 := lxA_le (f := f) B8
          refine wp_goto (tgt := 161) dX8_atom0_92 (by decide) ?_
          refine wp_iload_n dX8_atom0_161 rfl rfl ?_
          refine wp_iret rfl dX8_atom0_162 ?_
          have ee : oneP f z (some q) x = pbd (q.2.2 (lxN f z x)) (fun y c v => if lxT f z y = 41 then .inr (lxN f z y, c, v) else .inl (lxA f z y)) := (if_neg (by omega)).trans ((if_neg (by omega)).trans ((if_neg t1).trans (if_pos t6)))
          rw [ee, r8] at k
          replace k : ∀ M' w, PoM M0 t f z o e (if lxT f z y8 = 41 then .inr (lxN f z y8, c8, v8) else .inl (lxA f z y8)) M' w → Q (some (0, w)) M' := k
          rw [if_pos t12] at k
          exact k _ _ ⟨F14, J14, e8⟩
        · refine wp_if_ne (tgt := 71) dX8_atom0_64 (by decide) (fun h => absurd h (by decide)) (fun _ => ?_)
          refine wp_aload_n dX8_atom0_67 rfl rfl ?_
          refine wp_callV0 (d' := d - 1) cv_RX8_194 69 rfl [] [] rfl rfl (Or.inl ⟨_, _, rfl, by decide, rfl, by omega, by omega⟩) (by omega) (Nat.le_of_ble_eq_true rfl) dX8_atom0_68 rfl (Nat.le_of_ble_eq_true rfl) (by omega) (loc1 := [(2, 69)]) rfl ?_
          refine sp_failm hn J8 (fun M15 D15 f15 => ?_)
          have F15 := (F8).tr f15
          refine wp_aload_n dX8_atom0_71 rfl rfl ?_
          refine wp_dup dX8_atom0_72 (Or.inr rfl) ?_
          refine wp_get 69 rfl fl_RX8_191 rfl ⟨by omega, by omega⟩ dX8_atom0_73 rfl (v := (o + 1)) (D15.2.1) ?_
          refine wp_iconst dX8_atom0_76 (by decide) ?_
          refine wp_isub dX8_atom0_77 (by omega) ?_
          refine wp_puti 69 rfl fl_RX8_191 rfl ⟨by omega, by omega⟩ dX8_atom0_78 rfl rfl ?_
          refine wp_aload_n dX8_atom0_81 rfl rfl ?_
          refine wp_get 69 rfl fl_RX8_181 rfl ⟨by omega, by omega⟩ dX8_atom0_82 rfl (v := 1) (D15.2.2.1) ?_
          refine wp_if_ne (tgt := 161) dX8_atom0_85 (by decide) (fun _ => ?_) (fun h => absurd h (by decide))
          refine wp_iload_n dX8_atom0_161 rfl rfl ?_
          refine wp_iret rfl dX8_atom0_162 ?_
          have J16 := (D15).opn (show ((o + 1) - 1) = o by omega)
          have B16 : Fr VMr M0 (mu M15 69 25 ((o + 1) - 1)) := (F15).tr fm25
          generalize (mu M15 69 25 ((o + 1) - 1)) = N16 at J16 B16 ⊢
          have ee : oneP f z (some q) x = pbd (q.2.2 (lxN f z x)) (fun y c v => if lxT f z y = 41 then .inr (lxN f z y, c, v) else .inl (lxA f z y)) := (if_neg (by omega)).trans ((if_neg (by omega)).trans ((if_neg t1).trans (if_pos t6)))
          rw [ee, r8] at k
          replace k : ∀ M' w, PoM M0 t f z o e (if lxT f z y8 = 41 then .inr (lxN f z y8, c8, v8) else .inl (lxA f z y8)) M' w → Q (some (0, w)) M' := k
          rw [if_neg t12] at k
          exact k _ _ ⟨B16, J16⟩
    · refine wp_if_eq (tgt := 95) dX8_atom0_43 (by decide) (fun _ => ?_) (fun h => absurd h (by decide))
      refine wp_aload_n dX8_atom0_95 rfl rfl ?_
      refine wp_get 69 rfl fl_RX8_181 rfl ⟨by omega, by omega⟩ dX8_atom0_96 rfl (v := 0) (hJ.2.2.2.1) ?_
      refine wp_if_ne (tgt := 123) dX8_atom0_99 (by decide) (fun h => absurd h (by decide)) (fun _ => ?_)
      refine wp_aload_n dX8_atom0_102 rfl rfl ?_
      refine wp_get 69 rfl fl_RX8_164 rfl ⟨by omega, by omega⟩ dX8_atom0_103 rfl (v := (M0 69 22)) (rfl) ?_
      refine wp_iconst dX8_atom0_106 (by decide) ?_
      refine wp_icmp_ne (tgt := 123) dX8_atom0_107 (by decide) (fun h107 => ?_) (fun h107 => ?_)
      · refine wp_aload_n dX8_atom0_123 rfl rfl ?_
        refine wp_get 69 rfl fl_RX8_181 rfl ⟨by omega, by omega⟩ dX8_atom0_124 rfl (v := 0) (hJ.2.2.2.1) ?_
        refine wp_if_ne (tgt := 157) dX8_atom0_127 (by decide) (fun h => absurd h (by decide)) (fun _ => ?_)
        refine wp_aload_n dX8_atom0_130 rfl rfl ?_
        refine wp_get 69 rfl fl_RX8_164 rfl ⟨by omega, by omega⟩ dX8_atom0_131 rfl (v := (M0 69 22)) (rfl) ?_
        refine wp_iconst dX8_atom0_134 (by decide) ?_
        refine wp_icmp_ne (tgt := 157) dX8_atom0_135 (by decide) (fun h135 => ?_) (fun h135 => ?_)
        · refine wp_aload_n dX8_atom0_157 rfl rfl ?_
          refine wp_callV0 (d' := d - 1) cv_RX8_194 69 rfl [] [] rfl rfl (Or.inl ⟨_, _, rfl, by decide, rfl, by omega, by omega⟩) (by omega) (Nat.le_of_ble_eq_true rfl) dX8_atom0_158 rfl (Nat.le_of_ble_eq_true rfl) (by omega) (loc1 := [(2, 69)]) rfl ?_
          refine sp_failm hn hJ (fun M17 D17 f17 => ?_)
          have F17 := ((Fr.rf : Fr VMr M0 M0)).tr f17
          refine wp_iload_n dX8_atom0_161 rfl rfl ?_
          refine wp_iret rfl dX8_atom0_162 ?_
          have two := hJ.2.1.2.2.two
          have t2 : lxT f z x ≠ 2 := fun h => h107 (two.1.mpr h)
          have hw := hJ.2.1.2.2.word h135
          have ee : oneP f z (some q) x = .inl (lxA f z x) := (if_neg t2).trans ((if_neg (by omega)).trans ((if_neg t1).trans (if_neg t6)))
          rw [ee] at k
          exact k _ _ ⟨F17, D17⟩
        · refine wp_aload_n dX8_atom0_138 rfl rfl ?_
          refine wp_callV0 (d' := d - 1) cv_RX8_229 69 rfl [] [] rfl rfl (Or.inl ⟨_, _, rfl, by decide, rfl, by omega, by omega⟩) (by omega) (Nat.le_of_ble_eq_true rfl) dX8_atom0_139 rfl (Nat.le_of_ble_eq_true rfl) (by omega) (loc1 := [(2, 69)]) rfl ?_
          refine sp_name hn (by omega) hJ hx (fun hnm => ?_) (fun hnm M18 D18 f18 => ?_)
          · refine wp_istore_n (loc' := [(2, 69), (0, (e (-1 - (lxT f z x - 262))))]) dX8_atom0_142 rfl (Nat.le_of_ble_eq_true rfl) rfl ?_
            refine wp_aload_n dX8_atom0_143 rfl rfl ?_
            refine wp_get 69 rfl fl_RX8_181 rfl ⟨by omega, by omega⟩ dX8_atom0_144 rfl (v := 0) (hJ.2.2.2.1) ?_
            refine wp_if_ne (tgt := 161) dX8_atom0_147 (by decide) (fun h => absurd h (by decide)) (fun _ => ?_)
            refine wp_aload_n dX8_atom0_150 rfl rfl ?_
            refine wp_callV0 (d' := d - 1) cv_RX8_197 69 rfl [] [] rfl rfl (Or.inl ⟨_, _, rfl, by decide, rfl, by omega, by omega⟩) (by omega) (Nat.le_of_ble_eq_true rfl) dX8_atom0_151 rfl (Nat.le_of_ble_eq_true rfl) (by omega) (loc1 := [(2, 69), (9, 0), (9, 0)]) rfl ?_
            refine sp_next hn (by omega) hB (hJ).1 ((hJ).2.1.2.1 ((hJ).2.1.2.2.ne4 (by omega))) (lxN_le hx).1 (fun M19 f19 l19 => ?_)
            have J19 := (hJ).step f19 l19
            have F19 := ((Fr.rf : Fr VMr M0 M0)).tr (f19.mono VM1.r)
            have X19 := lxN_le (f := f) hx
            have Y19 := lxA_le (f := f) hx
            refine wp_goto (tgt := 161) dX8_atom0_154 (by decide) ?_
            refine wp_iload_n dX8_atom0_161 rfl rfl ?_
            refine wp_iret rfl dX8_atom0_162 ?_
            have two := hJ.2.1.2.2.two
            have t2 : lxT f z x ≠ 2 := fun h => h107 (two.1.mpr h)
            have ee : oneP f z (some q) x = .inr (lxN f z x, [-1 - (lxT f z x - 262)], fun e => e (-1 - (lxT f z x - 262))) := (if_neg t2).trans (if_pos hnm)
            rw [ee] at k
            exact k _ _ ⟨F19, J19, rfl⟩
          · have F18 := ((Fr.rf : Fr VMr M0 M0)).tr f18
            refine wp_istore_n (loc' := [(2, 69), (0, 0)]) dX8_atom0_142 rfl (Nat.le_of_ble_eq_true rfl) rfl ?_
            refine wp_aload_n dX8_atom0_143 rfl rfl ?_
            refine wp_get 69 rfl fl_RX8_181 rfl ⟨by omega, by omega⟩ dX8_atom0_144 rfl (v := 1) (D18.2.2.1) ?_
            refine wp_if_ne (tgt := 161) dX8_atom0_147 (by decide) (fun _ => ?_) (fun h => absurd h (by decide))
            refine wp_iload_n dX8_atom0_161 rfl rfl ?_
            refine wp_iret rfl dX8_atom0_162 ?_
            have two := hJ.2.1.2.2.two
            have t2 : lxT f z x ≠ 2 := fun h => h107 (two.1.mpr h)
            have ee : oneP f z (some q) x = .inl (lxA f z x) := (if_neg t2).trans ((if_neg hnm).trans ((if_neg t1).trans (if_neg t6)))
            rw [ee] at k
            exact k _ _ ⟨F18, D18⟩
      · refine wp_aload_n dX8_atom0_110 rfl rfl ?_
        refine wp_get 69 rfl fl_RX8_175 rfl ⟨by omega, by omega⟩ dX8_atom0_111 rfl (v := (M0 69 24)) (rfl) ?_
        refine wp_l2i dX8_atom0_114 ?_
        refine wp_istore_n (loc' := [(2, 69), (0, (wrap (M0 69 24)))]) dX8_atom0_115 rfl (Nat.le_of_ble_eq_true rfl) rfl ?_
        refine wp_aload_n dX8_atom0_116 rfl rfl ?_
        refine wp_callV0 (d' := d - 1) cv_RX8_197 69 rfl [] [] rfl rfl (Or.inl ⟨_, _, rfl, by decide, rfl, by omega, by omega⟩) (by omega) (Nat.le_of_ble_eq_true rfl) dX8_atom0_117 rfl (Nat.le_of_ble_eq_true rfl) (by omega) (loc1 := [(2, 69), (9, 0), (9, 0)]) rfl ?_
        have t2 := hJ.2.1.2.2.two.1.mp h107
        refine sp_next hn (by omega) hB (hJ).1 ((hJ).2.1.2.1 ((hJ).2.1.2.2.ne4 (by omega))) (lxN_le hx).1 (fun M20 f20 l20 => ?_)
        have J20 := (hJ).step f20 l20
        have F20 := ((Fr.rf : Fr VMr M0 M0)).tr (f20.mono VM1.r)
        have X20 := lxN_le (f := f) hx
        have Y20 := lxA_le (f := f) hx
        refine wp_goto (tgt := 161) dX8_atom0_120 (by decide) ?_
        refine wp_iload_n dX8_atom0_161 rfl rfl ?_
        refine wp_iret rfl dX8_atom0_162 ?_
        have two := hJ.2.1.2.2.two
        have t2 := two.1.mp h107
        have ee : oneP f z (some q) x = .inr (lxN f z x, [lxV f z x], fun _ => lxV f z x) := if_pos t2
        rw [ee] at k
        have hv := lxV_r hx t2
        exact k _ _ ⟨F20, J20, by rw [two.2 h107, wrap_id (by omega)]⟩
set_option maxRecDepth 20000 in
set_option maxHeartbeats 4000000 in
theorem cm_not0 {l : Launch} {g : Gw} {n : Nat} (hn : 90 ≤ n) {t : Nat} {f : Nat → Int} {z : Int} {e : Int → Int} {B : Nat} (hB8 : 12 ≤ B) (hB : BT f z) {o : Int} (ho : 0 ≤ o ∧ o < 5) {q : P3} (hq : OK3 z q) (hs2 : CMm l g n t f z e m_X8_not1 [(9, 0), (9, 0), (9, 0)] B (o + 1) q.2.1) {P : Nat → PR} (hqc : ∀ x : Nat, (x : Int) ≤ z → PQ z x (P x)) (hc : CMm l g n t f z e m_X8_added0 [(9, 0), (9, 0), (9, 0)] B o P) : CMm l g n t f z e m_X8_not0 [(9, 0), (9, 0), (9, 0)] (B + 1) o (notP f z (some q) (gBn f z opC 1 P)) := by
  intro d M0 Q x hd hJ hx k
  have hz1 := hJ.1.2.2.2.2.2.1
  refine wp_aload_n dX8_not0_0 rfl rfl ?_
  refine wp_bipush dX8_not0_1 (by decide) (by decide) ?_
  refine wp_bipush dX8_not0_3 (by decide) (by decide) ?_
  refine wp_bipush dX8_not0_5 (by decide) (by decide) ?_
  refine wp_iconst dX8_not0_7 (by decide) ?_
  refine wp_iconst dX8_not0_8 (by decide) ?_
  refine wp_iconst dX8_not0_9 (by decide) ?_
  refine wp_iconst dX8_not0_10 (by decide) ?_
  refine wp_iconst dX8_not0_11 (by decide) ?_
  refine wp_callV0 (d' := d - 1) cv_RX8_200 69 rfl [(0, 110), (0, 111), (0, 116), (0, 0), (0, 0), (0, 0), (0, 0), (0, 0)] [] rfl rfl (Or.inl ⟨_, _, rfl, by decide, rfl, by omega, by omega⟩) (by omega) (Nat.le_of_ble_eq_true rfl) dX8_not0_12 rfl (Nat.le_of_ble_eq_true rfl) (by omega) (loc1 := [(2, 69), (0, 110), (0, 111), (0, 116), (0, 0), (0, 0), (0, 0), (0, 0), (0, 0)]) rfl ?_
  refine sp_isWm_5 hn (by omega) hJ hx (fun t1 => ?_) (fun t1 => ?_)
  · refine wp_if_eq (tgt := 52) dX8_not0_15 (by decide) (fun h => absurd h (by decide)) (fun _ => ?_)
    refine wp_aload_n dX8_not0_18 rfl rfl ?_
    refine wp_callV0 (d' := d - 1) cv_RX8_225 69 rfl [] [] rfl rfl (Or.inl ⟨_, _, rfl, by decide, rfl, by omega, by omega⟩) (by omega) (Nat.le_of_ble_eq_true rfl) dX8_not0_19 rfl (Nat.le_of_ble_eq_true rfl) (by omega) (loc1 := [(2, 69)]) rfl ?_
    refine sp_opensm hn (by omega) hB hJ hx ho (by omega) (fun M2 J2 f2 => ?_)
    have F2 := ((Fr.rf : Fr VMr M0 M0)).tr f2
    have X2 := lxN_le (f := f) hx
    have Y2 := lxA_le (f := f) hx
    refine wp_if_ne (tgt := 27) dX8_not0_22 (by decide) (fun _ => ?_) (fun h => absurd h (by decide))
    refine wp_aload_n dX8_not0_27 rfl rfl ?_
    refine wp_callV0 (d' := d - 1) cv_RX8_318 69 rfl [] [] rfl rfl (Or.inl ⟨_, _, rfl, by decide, rfl, by omega, by omega⟩) (by omega) (Nat.le_of_ble_eq_true rfl) dX8_not0_28 rfl (Nat.le_of_ble_eq_true rfl) (by omega) (loc1 := [(2, 69), (9, 0), (9, 0), (9, 0)]) rfl ?_
    refine hs2 _ _ _ _ (by omega) J2 X2.1 (fun M3 w3 q3 => ?_)
    obtain ⟨f3, q3⟩ := q3
    have F3 := (F2).tr f3
    have b3 := hq.2.1 _ X2.1
    generalize r3 : q.2.1 (lxN f z x) = u3 at q3 b3
    rcases u3 with p3 | ⟨y3, c3, v3⟩
    · have D3 : DJm M3 t f z p3 (o + 1) e := q3
      refine wp_istore_n (loc' := [(2, 69), (0, w3), (9, 0), (9, 0)]) dX8_not0_31 rfl (Nat.le_of_ble_eq_true rfl) rfl ?_
      refine wp_aload_n dX8_not0_32 rfl rfl ?_
      refine wp_dup dX8_not0_33 (Or.inr rfl) ?_
      refine wp_get 69 rfl fl_RX8_191 rfl ⟨by omega, by omega⟩ dX8_not0_34 rfl (v := (o + 1)) (D3.2.1) ?_
      refine wp_iconst dX8_not0_37 (by decide) ?_
      refine wp_isub dX8_not0_38 (by omega) ?_
      refine wp_puti 69 rfl fl_RX8_191 rfl ⟨by omega, by omega⟩ dX8_not0_39 rfl rfl ?_
      refine wp_iload_n dX8_not0_42 rfl rfl ?_
      refine wp_if_ne (tgt := 50) dX8_not0_43 (by decide) (fun h43 => ?_) (fun h43 => ?_)
      · refine wp_iconst dX8_not0_50 (by decide) ?_
        refine wp_iret rfl dX8_not0_51 ?_
        have J4 := (D3).opn (show ((o + 1) - 1) = o by omega)
        have B4 : Fr VMr M0 (mu M3 69 25 ((o + 1) - 1)) := (F3).tr fm25
        generalize (mu M3 69 25 ((o + 1) - 1)) = N4 at J4 B4 ⊢
        have ee : notP f z (some q) (gBn f z opC 1 P) x = pbd (q.2.1 (lxN f z x)) (fun y c v => .inr (y, c ++ [-9], fun e => if v e = 0 then 1 else 0)) := if_pos t1
        rw [ee, r3] at k
        exact k _ _ ⟨B4, J4⟩
      · refine wp_iconst dX8_not0_46 (by decide) ?_
        refine wp_goto (tgt := 51) dX8_not0_47 (by decide) ?_
        refine wp_iret rfl dX8_not0_51 ?_
        have J5 := (D3).opn (show ((o + 1) - 1) = o by omega)
        have B5 : Fr VMr M0 (mu M3 69 25 ((o + 1) - 1)) := (F3).tr fm25
        generalize (mu M3 69 25 ((o + 1) - 1)) = N5 at J5 B5 ⊢
        have ee : notP f z (some q) (gBn f z opC 1 P) x = pbd (q.2.1 (lxN f z x)) (fun y c v => .inr (y, c ++ [-9], fun e => if v e = 0 then 1 else 0)) := if_pos t1
        rw [ee, r3] at k
        exact k _ _ ⟨B5, J5⟩
    · obtain ⟨J3, e3⟩ : RJm M3 t f z y3 (o + 1) e ∧ w3 = v3 e := q3
      obtain ⟨b3, B3, _⟩ : (lxN f z x) + c3.length ≤ y3 ∧ (y3 : Int) ≤ z ∧ _ := b3
      refine wp_istore_n (loc' := [(2, 69), (0, w3), (9, 0), (9, 0)]) dX8_not0_31 rfl (Nat.le_of_ble_eq_true rfl) rfl ?_
      refine wp_aload_n dX8_not0_32 rfl rfl ?_
      refine wp_dup dX8_not0_33 (Or.inr rfl) ?_
      refine wp_get 69 rfl fl_RX8_191 rfl ⟨by omega, by omega⟩ dX8_not0_34 rfl (v := (o + 1)) (J3.2.2.1) ?_
      refine wp_iconst dX8_not0_37 (by decide) ?_
      refine wp_isub dX8_not0_38 (by omega) ?_
      refine wp_puti 69 rfl fl_RX8_191 rfl ⟨by omega, by omega⟩ dX8_not0_39 rfl rfl ?_
      refine wp_iload_n dX8_not0_42 rfl rfl ?_
      refine wp_if_ne (tgt := 50) dX8_not0_43 (by decide) (fun h43 => ?_) (fun h43 => ?_)
      · refine wp_iconst dX8_not0_50 (by decide) ?_
        refine wp_iret rfl dX8_not0_51 ?_
        have J6 := (J3).opn (show ((o + 1) - 1) = o by omega)
        have B6 : Fr VMr M0 (mu M3 69 25 ((o + 1) - 1)) := (F3).tr fm25
        generalize (mu M3 69 25 ((o + 1) - 1)) = N6 at J6 B6 ⊢
        have ee : notP f z (some q) (gBn f z opC 1 P) x = pbd (q.2.1 (lxN f z x)) (fun y c v => .inr (y, c ++ [-9], fun e => if v e = 0 then 1 else 0)) := if_pos t1
        rw [ee, r3] at k
        refine k _ _ ⟨B6, J6, ?_⟩
        show _ = (if v3 e = 0 then (1 : Int) else 0)
        rw [← e3]
        first | exact (if_pos (by omega)).symm | exact (if_neg (by omega)).symm
      · refine wp_iconst dX8_not0_46 (by decide) ?_
        refine wp_goto (tgt := 51) dX8_not0_47 (by decide) ?_
        refine wp_iret rfl dX8_not0_51 ?_
        have J7 := (J3).opn (show ((o + 1) - 1) = o by omega)
        have B7 : Fr VMr M0 (mu M3 69 25 ((o + 1) - 1)) := (F3).tr fm25
        generalize (mu M3 69 25 ((o + 1) - 1)) = N7 at J7 B7 ⊢
        have ee : notP f z (some q) (gBn f z opC 1 P) x = pbd (q.2.1 (lxN f z x)) (fun y c v => .inr (y, c ++ [-9], fun e => if v e = 0 then 1 else 0)) := if_pos t1
        rw [ee, r3] at k
        refine k _ _ ⟨B7, J7, ?_⟩
        show _ = (if v3 e = 0 then (1 : Int) else 0)
        rw [← e3]
        first | exact (if_pos (by omega)).symm | exact (if_neg (by omega)).symm
  · refine wp_if_eq (tgt := 52) dX8_not0_15 (by decide) (fun _ => ?_) (fun h => absurd h (by decide))
    refine wp_aload_n dX8_not0_52 rfl rfl ?_
    refine wp_callV0 (d' := d - 1) cv_RX8_333 69 rfl [] [] rfl rfl (Or.inl ⟨_, _, rfl, by decide, rfl, by omega, by omega⟩) (by omega) (Nat.le_of_ble_eq_true rfl) dX8_not0_53 rfl (Nat.le_of_ble_eq_true rfl) (by omega) (loc1 := [(2, 69), (9, 0), (9, 0), (9, 0)]) rfl ?_
    refine hc _ _ _ _ (by omega) hJ hx (fun M8 w8 q8 => ?_)
    obtain ⟨f8, q8⟩ := q8
    have F8 := ((Fr.rf : Fr VMr M0 M0)).tr f8
    have b8 := hqc _ hx
    generalize r8 : P x = u8 at q8 b8
    rcases u8 with p8 | ⟨y8, c8, v8⟩
    · have D8 : DJm M8 t f z p8 o e := q8
      refine wp_istore_n (loc' := [(2, 69), (0, w8), (9, 0), (9, 0)]) dX8_not0_56 rfl (Nat.le_of_ble_eq_true rfl) rfl ?_
      refine wp_aload_n dX8_not0_57 rfl rfl ?_
      refine wp_bipush dX8_not0_58 (by decide) (by decide) ?_
      refine wp_callV0 (d' := d - 1) cv_RX8_222 69 rfl [(0, 60)] [] rfl rfl (Or.inl ⟨_, _, rfl, by decide, rfl, by omega, by omega⟩) (by omega) (Nat.le_of_ble_eq_true rfl) dX8_not0_60 rfl (Nat.le_of_ble_eq_true rfl) (by omega) (loc1 := [(2, 69), (0, 60)]) rfl ?_
      refine sp_isSd hn D8 ?_
      refine wp_if_ne (tgt := 77) dX8_not0_63 (by decide) (fun h => absurd h (by decide)) (fun _ => ?_)
      refine wp_aload_n dX8_not0_66 rfl rfl ?_
      refine wp_bipush dX8_not0_67 (by decide) (by decide) ?_
      refine wp_callV0 (d' := d - 1) cv_RX8_222 69 rfl [(0, 61)] [] rfl rfl (Or.inl ⟨_, _, rfl, by decide, rfl, by omega, by omega⟩) (by omega) (Nat.le_of_ble_eq_true rfl) dX8_not0_69 rfl (Nat.le_of_ble_eq_true rfl) (by omega) (loc1 := [(2, 69), (0, 61)]) rfl ?_
      refine sp_isSd hn D8 ?_
      refine wp_if_ne (tgt := 77) dX8_not0_72 (by decide) (fun h => absurd h (by decide)) (fun _ => ?_)
      refine wp_iload_n dX8_not0_75 rfl rfl ?_
      refine wp_iret rfl dX8_not0_76 ?_
      have ee : notP f z (some q) (gBn f z opC 1 P) x = pbd (P x) (fun y c v => gL f z opC P 1 y c v) := if_neg t1
      rw [ee, r8] at k
      exact k _ _ ⟨F8, D8⟩
    · obtain ⟨J8, e8⟩ : RJm M8 t f z y8 o e ∧ w8 = v8 e := q8
      obtain ⟨b8, B8, _⟩ : x + c8.length ≤ y8 ∧ (y8 : Int) ≤ z ∧ _ := b8
      refine wp_istore_n (loc' := [(2, 69), (0, w8), (9, 0), (9, 0)]) dX8_not0_56 rfl (Nat.le_of_ble_eq_true rfl) rfl ?_
      refine wp_aload_n dX8_not0_57 rfl rfl ?_
      refine wp_bipush dX8_not0_58 (by decide) (by decide) ?_
      refine wp_callV0 (d' := d - 1) cv_RX8_222 69 rfl [(0, 60)] [] rfl rfl (Or.inl ⟨_, _, rfl, by decide, rfl, by omega, by omega⟩) (by omega) (Nat.le_of_ble_eq_true rfl) dX8_not0_60 rfl (Nat.le_of_ble_eq_true rfl) (by omega) (loc1 := [(2, 69), (0, 60)]) rfl ?_
      refine sp_isSg hn J8 60 (by decide) (fun t11 => ?_) (fun t11 => ?_)
      · have g11 := ((J8).2.1.2.2.sgn (s := 60) (by decide)).mpr t11
        refine wp_if_ne (tgt := 77) dX8_not0_63 (by decide) (fun _ => ?_) (fun h => absurd h (by decide))
        refine wp_aload_n dX8_not0_77 rfl rfl ?_
        refine wp_get 69 rfl fl_RX8_175 rfl ⟨by omega, by omega⟩ dX8_not0_78 rfl (v := 60) (g11.2) ?_
        refine wp_ldc2 (x := 60) dX8_not0_81 kl_RX8_244 (by decide) (wr_l (by omega)) ?_
        refine wp_lcmp dX8_not0_84 ?_
        change Wp _ _ _ _ _ _ _ _ ((0, 0) :: _) _ _ _
        refine wp_if_ne (tgt := 92) dX8_not0_85 (by decide) (fun h => absurd h (by decide)) (fun _ => ?_)
        refine wp_iconst dX8_not0_88 (by decide) ?_
        refine wp_goto (tgt := 93) dX8_not0_89 (by decide) ?_
        refine wp_istore_n (loc' := [(2, 69), (0, w8), (0, 1), (9, 0)]) dX8_not0_93 rfl (Nat.le_of_ble_eq_true rfl) rfl ?_
        refine wp_aload_n dX8_not0_94 rfl rfl ?_
        refine wp_callV0 (d' := d - 1) cv_RX8_197 69 rfl [] [] rfl rfl (Or.inl ⟨_, _, rfl, by decide, rfl, by omega, by omega⟩) (by omega) (Nat.le_of_ble_eq_true rfl) dX8_not0_95 rfl (Nat.le_of_ble_eq_true rfl) (by omega) (loc1 := [(2, 69), (9, 0), (9, 0)]) rfl ?_
        refine sp_next hn (by omega) hB (J8).1 ((J8).2.1.2.1 ((J8).2.1.2.2.ne4 (by omega))) (lxN_le B8).1 (fun M12 f12 l12 => ?_)
        have J12 := (J8).step f12 l12
        have F12 := (F8).tr (f12.mono VM1.r)
        have X12 := lxN_le (f := f) B8
        have Y12 := lxA_le (f := f) B8
        refine wp_aload_n dX8_not0_98 rfl rfl ?_
        refine wp_callV0 (d' := d - 1) cv_RX8_333 69 rfl [] [] rfl rfl (Or.inl ⟨_, _, rfl, by decide, rfl, by omega, by omega⟩) (by omega) (Nat.le_of_ble_eq_true rfl) dX8_not0_99 rfl (Nat.le_of_ble_eq_true rfl) (by omega) (loc1 := [(2, 69), (9, 0), (9, 0), (9, 0)]) rfl ?_
        refine hc _ _ _ _ (by omega) J12 X12.1 (fun M13 w13 q13 => ?_)
        obtain ⟨f13, q13⟩ := q13
        have F13 := (F12).tr f13
        have b13 := hqc _ X12.1
        generalize r13 : P (lxN f z y8) = u13 at q13 b13
        rcases u13 with p13 | ⟨y13, c13, v13⟩
        · have D13 : DJm M13 t f z p13 o e := q13
          refine wp_istore_n (loc' := [(2, 69), (0, w8), (0, 1), (0, w13)]) dX8_not0_102 rfl (Nat.le_of_ble_eq_true rfl) rfl ?_
          refine wp_iload_n dX8_not0_103 rfl rfl ?_
          refine wp_if_eq (tgt := 115) dX8_not0_104 (by decide) (fun h => absurd h (by decide)) (fun _ => ?_)
          refine wp_iload_n dX8_not0_107 rfl rfl ?_
          refine wp_iload_n dX8_not0_108 rfl rfl ?_
          refine wp_icmp_ge (tgt := 124) dX8_not0_109 (by decide) (fun h109 => ?_) (fun h109 => ?_)
          · refine wp_iconst dX8_not0_124 (by decide) ?_
            refine wp_iret rfl dX8_not0_125 ?_
            have ee : notP f z (some q) (gBn f z opC 1 P) x = pbd (P x) (fun y c v => gL f z opC P 1 y c v) := if_neg t1
            rw [ee, r8] at k
            have eo : opC (lxT f z y8) = -10 := if_pos t11
            have e2 : gL f z opC P 1 y8 c8 v8 = pbd (P (lxN f z y8)) (fun y c' v' => gL f z opC P 0 y (c8 ++ c' ++ [opC (lxT f z y8)]) (fun e => jn (opC (lxT f z y8)) (v8 e) (v' e))) := if_neg (by rw [eo]; decide)
            replace k : ∀ M' w, PoM M0 t f z o e (gL f z opC P 1 y8 c8 v8) M' w → Q (some (0, w)) M' := k
            rw [e2, r13] at k
            exact k _ _ ⟨F13, D13⟩
          · refine wp_goto (tgt := 120) dX8_not0_112 (by decide) ?_
            refine wp_iconst dX8_not0_120 (by decide) ?_
            refine wp_goto (tgt := 125) dX8_not0_121 (by decide) ?_
            refine wp_iret rfl dX8_not0_125 ?_
            have ee : notP f z (some q) (gBn f z opC 1 P) x = pbd (P x) (fun y c v => gL f z opC P 1 y c v) := if_neg t1
            rw [ee, r8] at k
            have eo : opC (lxT f z y8) = -10 := if_pos t11
            have e2 : gL f z opC P 1 y8 c8 v8 = pbd (P (lxN f z y8)) (fun y c' v' => gL f z opC P 0 y (c8 ++ c' ++ [opC (lxT f z y8)]) (fun e => jn (opC (lxT f z y8)) (v8 e) (v' e))) := if_neg (by rw [eo]; decide)
            replace k : ∀ M' w, PoM M0 t f z o e (gL f z opC P 1 y8 c8 v8) M' w → Q (some (0, w)) M' := k
            rw [e2, r13] at k
            exact k _ _ ⟨F13, D13⟩
        · obtain ⟨J13, e13⟩ : RJm M13 t f z y13 o e ∧ w13 = v13 e := q13
          obtain ⟨b13, B13, _⟩ : (lxN f z y8) + c13.length ≤ y13 ∧ (y13 : Int) ≤ z ∧ _ := b13
          refine wp_istore_n (loc' := [(2, 69), (0, w8), (0, 1), (0, w13)]) dX8_not0_102 rfl (Nat.le_of_ble_eq_true rfl) rfl ?_
          refine wp_iload_n dX8_not0_103 rfl rfl ?_
          refine wp_if_eq (tgt := 115) dX8_not0_104 (by decide) (fun h => absurd h (by decide)) (fun _ => ?_)
          refine wp_iload_n dX8_not0_107 rfl rfl ?_
          refine wp_iload_n dX8_not0_108 rfl rfl ?_
          refine wp_icmp_ge (tgt := 124) dX8_not0_109 (by decide) (fun h109 => ?_) (fun h109 => ?_)
          · refine wp_iconst dX8_not0_124 (by decide) ?_
            refine wp_iret rfl dX8_not0_125 ?_
            have ee : notP f z (some q) (gBn f z opC 1 P) x = pbd (P x) (fun y c v => gL f z opC P 1 y c v) := if_neg t1
            rw [ee, r8] at k
            have eo : opC (lxT f z y8) = -10 := if_pos t11
            have e2 : gL f z opC P 1 y8 c8 v8 = pbd (P (lxN f z y8)) (fun y c' v' => gL f z opC P 0 y (c8 ++ c' ++ [opC (lxT f z y8)]) (fun e => jn (opC (lxT f z y8)) (v8 e) (v' e))) := if_neg (by rw [eo]; decide)
            replace k : ∀ M' w, PoM M0 t f z o e (gL f z opC P 1 y8 c8 v8) M' w → Q (some (0, w)) M' := k
            rw [e2, r13] at k
            refine k _ _ ⟨F13, J13, ?_⟩
            show _ = jn (opC (lxT f z y8)) (v8 e) (v13 e)
            rw [eo, ← e8, ← e13, jn10]
            first | exact (if_pos (by omega)).symm | exact (if_neg (by omega)).symm
          · refine wp_goto (tgt := 120) dX8_not0_112 (by decide) ?_
            refine wp_iconst dX8_not0_120 (by decide) ?_
            refine wp_goto (tgt := 125) dX8_not0_121 (by decide) ?_
            refine wp_iret rfl dX8_not0_125 ?_
            have ee : notP f z (some q) (gBn f z opC 1 P) x = pbd (P x) (fun y c v => gL f z opC P 1 y c v) := if_neg t1
            rw [ee, r8] at k
            have eo : opC (lxT f z y8) = -10 := if_pos t11
            have e2 : gL f z opC P 1 y8 c8 v8 = pbd (P (lxN f z y8)) (fun y c' v' => gL f z opC P 0 y (c8 ++ c' ++ [opC (lxT f z y8)]) (fun e => jn (opC (lxT f z y8)) (v8 e) (v' e))) := if_neg (by rw [eo]; decide)
            replace k : ∀ M' w, PoM M0 t f z o e (gL f z opC P 1 y8 c8 v8) M' w → Q (some (0, w)) M' := k
            rw [e2, r13] at k
            refine k _ _ ⟨F13, J13, ?_⟩
            show _ = jn (opC (lxT f z y8)) (v8 e) (v13 e)
            rw [eo, ← e8, ← e13, jn10]
            first | exact (if_pos (by omega)).symm | exact (if_neg (by omega)).symm
      · refine wp_if_ne (tgt := 77) dX8_not0_63 (by decide) (fun h => absurd h (by decide)) (fun _ => ?_)
        refine wp_aload_n dX8_not0_66 rfl rfl ?_
        refine wp_bipush dX8_not0_67 (by decide) (by decide) ?_
        refine wp_callV0 (d' := d - 1) cv_RX8_222 69 rfl [(0, 61)] [] rfl rfl (Or.inl ⟨_, _, rfl, by decide, rfl, by omega, by omega⟩) (by omega) (Nat.le_of_ble_eq_true rfl) dX8_not0_69 rfl (Nat.le_of_ble_eq_true rfl) (by omega) (loc1 := [(2, 69), (0, 61)]) rfl ?_
        refine sp_isSg hn J8 61 (by decide) (fun t14 => ?_) (fun t14 => ?_)
        · have g14 := ((J8).2.1.2.2.sgn (s := 61) (by decide)).mpr t14
          refine wp_if_ne (tgt := 77) dX8_not0_72 (by decide) (fun _ => ?_) (fun h => absurd h (by decide))
          refine wp_aload_n dX8_not0_77 rfl rfl ?_
          refine wp_get 69 rfl fl_RX8_175 rfl ⟨by omega, by omega⟩ dX8_not0_78 rfl (v := 61) (g14.2) ?_
          refine wp_ldc2 (x := 60) dX8_not0_81 kl_RX8_244 (by decide) (wr_l (by omega)) ?_
          refine wp_lcmp dX8_not0_84 ?_
          change Wp _ _ _ _ _ _ _ _ ((0, 1) :: _) _ _ _
          refine wp_if_ne (tgt := 92) dX8_not0_85 (by decide) (fun _ => ?_) (fun h => absurd h (by decide))
          refine wp_iconst dX8_not0_92 (by decide) ?_
          refine wp_istore_n (loc' := [(2, 69), (0, w8), (0, 0), (9, 0)]) dX8_not0_93 rfl (Nat.le_of_ble_eq_true rfl) rfl ?_
          refine wp_aload_n dX8_not0_94 rfl rfl ?_
          refine wp_callV0 (d' := d - 1) cv_RX8_197 69 rfl [] [] rfl rfl (Or.inl ⟨_, _, rfl, by decide, rfl, by omega, by omega⟩) (by omega) (Nat.le_of_ble_eq_true rfl) dX8_not0_95 rfl (Nat.le_of_ble_eq_true rfl) (by omega) (loc1 := [(2, 69), (9, 0), (9, 0)]) rfl ?_
          refine sp_next hn (by omega) hB (J8).1 ((J8).2.1.2.1 ((J8).2.1.2.2.ne4 (by omega))) (lxN_le B8).1 (fun M15 f15 l15 => ?_)
          have J15 := (J8).step f15 l15
          have F15 := (F8).tr (f15.mono VM1.r)
          have X15 := lxN_le (f := f) B8
          have Y15 := lxA_le (f := f) B8
          refine wp_aload_n dX8_not0_98 rfl rfl ?_
          refine wp_callV0 (d' := d - 1) cv_RX8_333 69 rfl [] [] rfl rfl (Or.inl ⟨_, _, rfl, by decide, rfl, by omega, by omega⟩) (by omega) (Nat.le_of_ble_eq_true rfl) dX8_not0_99 rfl (Nat.le_of_ble_eq_true rfl) (by omega) (loc1 := [(2, 69), (9, 0), (9, 0), (9, 0)]) rfl ?_
          refine hc _ _ _ _ (by omega) J15 X15.1 (fun M16 w16 q16 => ?_)
          obtain ⟨f16, q16⟩ := q16
          have F16 := (F15).tr f16
          have b16 := hqc _ X15.1
          generalize r16 : P (lxN f z y8) = u16 at q16 b16
          rcases u16 with p16 | ⟨y16, c16, v16⟩
          · have D16 : DJm M16 t f z p16 o e := q16
            refine wp_istore_n (loc' := [(2, 69), (0, w8), (0, 0), (0, w16)]) dX8_not0_102 rfl (Nat.le_of_ble_eq_true rfl) rfl ?_
            refine wp_iload_n dX8_not0_103 rfl rfl ?_
            refine wp_if_eq (tgt := 115) dX8_not0_104 (by decide) (fun _ => ?_) (fun h => absurd h (by decide))
            refine wp_iload_n dX8_not0_115 rfl rfl ?_
            refine wp_iload_n dX8_not0_116 rfl rfl ?_
            refine wp_icmp_ne (tgt := 124) dX8_not0_117 (by decide) (fun h117 => ?_) (fun h117 => ?_)
            · refine wp_iconst dX8_not0_124 (by decide) ?_
              refine wp_iret rfl dX8_not0_125 ?_
              have ee : notP f z (some q) (gBn f z opC 1 P) x = pbd (P x) (fun y c v => gL f z opC P 1 y c v) := if_neg t1
              rw [ee, r8] at k
              have eo : opC (lxT f z y8) = -11 := (if_neg t11).trans (if_pos t14)
              have e2 : gL f z opC P 1 y8 c8 v8 = pbd (P (lxN f z y8)) (fun y c' v' => gL f z opC P 0 y (c8 ++ c' ++ [opC (lxT f z y8)]) (fun e => jn (opC (lxT f z y8)) (v8 e) (v' e))) := if_neg (by rw [eo]; decide)
              replace k : ∀ M' w, PoM M0 t f z o e (gL f z opC P 1 y8 c8 v8) M' w → Q (some (0, w)) M' := k
              rw [e2, r16] at k
              exact k _ _ ⟨F16, D16⟩
            · refine wp_iconst dX8_not0_120 (by decide) ?_
              refine wp_goto (tgt := 125) dX8_not0_121 (by decide) ?_
              refine wp_iret rfl dX8_not0_125 ?_
              have ee : notP f z (some q) (gBn f z opC 1 P) x = pbd (P x) (fun y c v => gL f z opC P 1 y c v) := if_neg t1
              rw [ee, r8] at k
              have eo : opC (lxT f z y8) = -11 := (if_neg t11).trans (if_pos t14)
              have e2 : gL f z opC P 1 y8 c8 v8 = pbd (P (lxN f z y8)) (fun y c' v' => gL f z opC P 0 y (c8 ++ c' ++ [opC (lxT f z y8)]) (fun e => jn (opC (lxT f z y8)) (v8 e) (v' e))) := if_neg (by rw [eo]; decide)
              replace k : ∀ M' w, PoM M0 t f z o e (gL f z opC P 1 y8 c8 v8) M' w → Q (some (0, w)) M' := k
              rw [e2, r16] at k
              exact k _ _ ⟨F16, D16⟩
          · obtain ⟨J16, e16⟩ : RJm M16 t f z y16 o e ∧ w16 = v16 e := q16
            obtain ⟨b16, B16, _⟩ : (lxN f z y8) + c16.length ≤ y16 ∧ (y16 : Int) ≤ z ∧ _ := b16
            refine wp_istore_n (loc' := [(2, 69), (0, w8), (0, 0), (0, w16)]) dX8_not0_102 rfl (Nat.le_of_ble_eq_true rfl) rfl ?_
            refine wp_iload_n dX8_not0_103 rfl rfl ?_
            refine wp_if_eq (tgt := 115) dX8_not0_104 (by decide) (fun _ => ?_) (fun h => absurd h (by decide))
            refine wp_iload_n dX8_not0_115 rfl rfl ?_
            refine wp_iload_n dX8_not0_116 rfl rfl ?_
            refine wp_icmp_ne (tgt := 124) dX8_not0_117 (by decide) (fun h117 => ?_) (fun h117 => ?_)
            · refine wp_iconst dX8_not0_124 (by decide) ?_
              refine wp_iret rfl dX8_not0_125 ?_
              have ee : notP f z (some q) (gBn f z opC 1 P) x = pbd (P x) (fun y c v => gL f z opC P 1 y c v) := if_neg t1
              rw [ee, r8] at k
              have eo : opC (lxT f z y8) = -11 := (if_neg t11).trans (if_pos t14)
              have e2 : gL f z opC P 1 y8 c8 v8 = pbd (P (lxN f z y8)) (fun y c' v' => gL f z opC P 0 y (c8 ++ c' ++ [opC (lxT f z y8)]) (fun e => jn (opC (lxT f z y8)) (v8 e) (v' e))) := if_neg (by rw [eo]; decide)
              replace k : ∀ M' w, PoM M0 t f z o e (gL f z opC P 1 y8 c8 v8) M' w → Q (some (0, w)) M' := k
              rw [e2, r16] at k
              refine k _ _ ⟨F16, J16, ?_⟩
              show _ = jn (opC (lxT f z y8)) (v8 e) (v16 e)
              rw [eo, ← e8, ← e16, jn11]
              first | exact (if_pos (by omega)).symm | exact (if_neg (by omega)).symm
            · refine wp_iconst dX8_not0_120 (by decide) ?_
              refine wp_goto (tgt := 125) dX8_not0_121 (by decide) ?_
              refine wp_iret rfl dX8_not0_125 ?_
              have ee : notP f z (some q) (gBn f z opC 1 P) x = pbd (P x) (fun y c v => gL f z opC P 1 y c v) := if_neg t1
              rw [ee, r8] at k
              have eo : opC (lxT f z y8) = -11 := (if_neg t11).trans (if_pos t14)
              have e2 : gL f z opC P 1 y8 c8 v8 = pbd (P (lxN f z y8)) (fun y c' v' => gL f z opC P 0 y (c8 ++ c' ++ [opC (lxT f z y8)]) (fun e => jn (opC (lxT f z y8)) (v8 e) (v' e))) := if_neg (by rw [eo]; decide)
              replace k : ∀ M' w, PoM M0 t f z o e (gL f z opC P 1 y8 c8 v8) M' w → Q (some (0, w)) M' := k
              rw [e2, r16] at k
              refine k _ _ ⟨F16, J16, ?_⟩
              show _ = jn (opC (lxT f z y8)) (v8 e) (v16 e)
              rw [eo, ← e8, ← e16, jn11]
              first | exact (if_pos (by omega)).symm | exact (if_neg (by omega)).symm
        · refine wp_if_ne (tgt := 77) dX8_not0_72 (by decide) (fun h => absurd h (by decide)) (fun _ => ?_)
          refine wp_iload_n dX8_not0_75 rfl rfl ?_
          refine wp_iret rfl dX8_not0_76 ?_
          have ee : notP f z (some q) (gBn f z opC 1 P) x = pbd (P x) (fun y c v => gL f z opC P 1 y c v) := if_neg t1
          rw [ee, r8] at k
          have e2 : gL f z opC P 1 y8 c8 v8 = .inr (y8, c8, v8) := if_pos (show opC (lxT f z y8) = 0 from (if_neg t11).trans (if_neg t14))
          replace k : ∀ M' w, PoM M0 t f z o e (gL f z opC P 1 y8 c8 v8) M' w → Q (some (0, w)) M' := k
          rw [e2] at k
          exact k _ _ ⟨F8, J8, e8⟩
set_option maxRecDepth 20000 in
set_option maxHeartbeats 4000000 in
theorem lq_term1 {l : Launch} {g : Gw} {n : Nat} (hn : 90 ≤ n) {t : Nat} {f : Nat → Int} {z : Int} {e : Int → Int} {B : Nat} (hB8 : 12 ≤ B) (hB : BT f z) {o : Int} {P : Nat → PR} (hs : CMm l g n t f z e m_X8_atom1 [(9, 0)] B o P) (hq : ∀ x : Nat, (x : Int) ≤ z → PQ z x (P x)) {d : Nat} (hd : B + 1 ≤ d) : ∀ (m x : Nat) (ce : List Int) (vl : Vl) (v : Int) (M0 : Mm) (Q : Option Wd → Mm → Prop), z ≤ (x : Int) + m → RJm M0 t f z x o e → (x : Int) ≤ z → v = vl e → (∀ M' w, PoM M0 t f z o e (gL f z opT P m x ce vl) M' w → Q (some (0, w)) M') → Wp l g d 0 0 n m_X8_term1 5 [] [(2, 69), (0, v)] M0 Q := by
  intro m
  induction m with
  | zero =>
    intro x ce vl v M0 Q hm hJ hx hv k
    refine wp_aload_n dX8_term1_5 rfl rfl ?_
    refine wp_bipush dX8_term1_6 (by decide) (by decide) ?_
    refine wp_callV0 (d' := d - 1) cv_RX8_222 69 rfl [(0, 42)] [] rfl rfl (Or.inl ⟨_, _, rfl, by decide, rfl, by omega, by omega⟩) (by omega) (Nat.le_of_ble_eq_true rfl) dX8_term1_8 rfl (Nat.le_of_ble_eq_true rfl) (by omega) (loc1 := [(2, 69), (0, 42)]) rfl ?_
    refine sp_isSg hn hJ 42 (by decide) (fun t1 => absurd t1 (by rw [lxT_end (by omega)]; decide)) (fun t1 => ?_)
    refine wp_if_eq (tgt := 28) dX8_term1_11 (by decide) (fun _ => ?_) (fun h => absurd h (by decide))
    refine wp_iload_n dX8_term1_28 rfl rfl ?_
    refine wp_iret rfl dX8_term1_29 ?_
    exact k _ _ ⟨Fr.rf, hJ, hv⟩
  | succ m ih =>
    intro x ce vl v M0 Q hm hJ hx hv k
    refine wp_aload_n dX8_term1_5 rfl rfl ?_
    refine wp_bipush dX8_term1_6 (by decide) (by decide) ?_
    refine wp_callV0 (d' := d - 1) cv_RX8_222 69 rfl [(0, 42)] [] rfl rfl (Or.inl ⟨_, _, rfl, by decide, rfl, by omega, by omega⟩) (by omega) (Nat.le_of_ble_eq_true rfl) dX8_term1_8 rfl (Nat.le_of_ble_eq_true rfl) (by omega) (loc1 := [(2, 69), (0, 42)]) rfl ?_
    refine sp_isSg hn hJ 42 (by decide) (fun t1 => ?_) (fun t1 => ?_)
    · have g1 := ((hJ).2.1.2.2.sgn (s := 42) (by decide)).mpr t1
      refine wp_if_eq (tgt := 28) dX8_term1_11 (by decide) (fun h => absurd h (by decide)) (fun _ => ?_)
      refine wp_aload_n dX8_term1_14 rfl rfl ?_
      refine wp_callV0 (d' := d - 1) cv_RX8_197 69 rfl [] [] rfl rfl (Or.inl ⟨_, _, rfl, by decide, rfl, by omega, by omega⟩) (by omega) (Nat.le_of_ble_eq_true rfl) dX8_term1_15 rfl (Nat.le_of_ble_eq_true rfl) (by omega) (loc1 := [(2, 69), (9, 0), (9, 0)]) rfl ?_
      refine sp_next hn (by omega) hB (hJ).1 ((hJ).2.1.2.1 ((hJ).2.1.2.2.ne4 (by omega))) (lxN_le hx).1 (fun M2 f2 l2 => ?_)
      have J2 := (hJ).step f2 l2
      have F2 := ((Fr.rf : Fr VMr M0 M0)).tr (f2.mono VM1.r)
      have X2 := lxN_le (f := f) hx
      have Y2 := lxA_le (f := f) hx
      refine wp_iload_n dX8_term1_18 rfl rfl ?_
      refine wp_aload_n dX8_term1_19 rfl rfl ?_
      refine wp_callV0 (d' := d - 1) cv_RX8_309 69 rfl [] [(0, v)] rfl rfl (Or.inl ⟨_, _, rfl, by decide, rfl, by omega, by omega⟩) (by omega) (Nat.le_of_ble_eq_true rfl) dX8_term1_20 rfl (Nat.le_of_ble_eq_true rfl) (by omega) (loc1 := [(2, 69), (9, 0)]) rfl ?_
      refine hs _ _ _ _ (by omega) J2 X2.1 (fun M3 w3 q3 => ?_)
      obtain ⟨f3, q3⟩ := q3
      have F3 := (F2).tr f3
      have b3 := hq _ X2.1
      generalize r3 : P (lxN f z x) = u3 at q3 b3
      rcases u3 with p3 | ⟨y3, c3, v3⟩
      · have D3 : DJm M3 t f z p3 o e := q3
        refine wp_imulw dX8_term1_23 ?_
        refine wp_istore_n (loc' := [(2, 69), (0, (wrap (v * w3)))]) dX8_term1_24 rfl (Nat.le_of_ble_eq_true rfl) rfl ?_
        refine wp_goto (tgt := 5) dX8_term1_25 (by decide) ?_
        have eo : opT (lxT f z x) = -14 := if_pos t1
        have ee : gL f z opT P (m + 1) x ce vl = pbd (P (lxN f z x)) (fun y c' v' => gL f z opT P m y (ce ++ c' ++ [opT (lxT f z x)]) (fun e => jn (opT (lxT f z x)) (vl e) (v' e))) := if_neg (by rw [eo]; decide)
        rw [ee, r3] at k
        exact lqd_term1 hn (by omega) (D3) (fun M9 w9 f9 d9 => k M9 w9 ⟨(F3).tr f9, d9⟩)
      · obtain ⟨J3, e3⟩ : RJm M3 t f z y3 o e ∧ w3 = v3 e := q3
        obtain ⟨b3, B3, _⟩ : (lxN f z x) + c3.length ≤ y3 ∧ (y3 : Int) ≤ z ∧ _ := b3
        refine wp_imulw dX8_term1_23 ?_
        refine wp_istore_n (loc' := [(2, 69), (0, (wrap (v * w3)))]) dX8_term1_24 rfl (Nat.le_of_ble_eq_true rfl) rfl ?_
        refine wp_goto (tgt := 5) dX8_term1_25 (by decide) ?_
        have eo : opT (lxT f z x) = -14 := if_pos t1
        have ee : gL f z opT P (m + 1) x ce vl = pbd (P (lxN f z x)) (fun y c' v' => gL f z opT P m y (ce ++ c' ++ [opT (lxT f z x)]) (fun e => jn (opT (lxT f z x)) (vl e) (v' e))) := if_neg (by rw [eo]; decide)
        rw [ee, r3] at k
        have hv2 : (wrap (v * w3)) = jn (opT (lxT f z x)) (vl e) (v3 e) := by
          rw [eo, ← hv, ← e3, jn14]
        have hg := X2.2.2 (by omega)
        exact ih y3 _ (fun e => jn (opT (lxT f z x)) (vl e) (v3 e)) _ _ Q (by omega) J3 B3 hv2 (fun M9 w9 q9 => k M9 w9 ⟨(F3).tr q9.1, q9.2⟩)
    · refine wp_if_eq (tgt := 28) dX8_term1_11 (by decide) (fun _ => ?_) (fun h => absurd h (by decide))
      refine wp_iload_n dX8_term1_28 rfl rfl ?_
      refine wp_iret rfl dX8_term1_29 ?_
      have ee : gL f z opT P (m + 1) x ce vl = .inr (x, ce, vl) := if_pos (show opT (lxT f z x) = 0 from if_neg t1)
      rw [ee] at k
      exact k _ _ ⟨Fr.rf, hJ, hv⟩
set_option maxRecDepth 20000 in
set_option maxHeartbeats 4000000 in
theorem cm_term1 {l : Launch} {g : Gw} {n : Nat} (hn : 90 ≤ n) {t : Nat} {f : Nat → Int} {z : Int} {e : Int → Int} {B : Nat} (hB8 : 12 ≤ B) (hB : BT f z) {o : Int} {P : Nat → PR} (hs : CMm l g n t f z e m_X8_atom1 [(9, 0)] B o P) (hq : ∀ x : Nat, (x : Int) ≤ z → PQ z x (P x)) : CMm l g n t f z e m_X8_term1 [(9, 0)] (B + 1) o (gBn f z opT 160 P) := by
  intro d M0 Q x hd hJ hx k
  have hz1 := hJ.1.2.2.2.2.2.1
  refine wp_aload_n dX8_term1_0 rfl rfl ?_
  refine wp_callV0 (d' := d - 1) cv_RX8_309 69 rfl [] [] rfl rfl (Or.inl ⟨_, _, rfl, by decide, rfl, by omega, by omega⟩) (by omega) (Nat.le_of_ble_eq_true rfl) dX8_term1_1 rfl (Nat.le_of_ble_eq_true rfl) (by omega) (loc1 := [(2, 69), (9, 0)]) rfl ?_
  refine hs _ _ _ _ (by omega) hJ hx (fun M1 w1 q1 => ?_)
  obtain ⟨f1, q1⟩ := q1
  have F1 := ((Fr.rf : Fr VMr M0 M0)).tr f1
  have b1 := hq _ hx
  generalize r1 : P x = u1 at q1 b1
  rcases u1 with p1 | ⟨y1, c1, v1⟩
  · have D1 : DJm M1 t f z p1 o e := q1
    refine wp_istore_n (loc' := [(2, 69), (0, w1)]) dX8_term1_4 rfl (Nat.le_of_ble_eq_true rfl) rfl ?_
    have ee : gBn f z opT 160 P x = pbd (P x) (fun y c v => gL f z opT P 160 y c v) := rfl
    rw [ee, r1] at k
    exact lqd_term1 hn (by omega) (D1) (fun M9 w9 f9 d9 => k M9 w9 ⟨(F1).tr f9, d9⟩)
  · obtain ⟨J1, e1⟩ : RJm M1 t f z y1 o e ∧ w1 = v1 e := q1
    obtain ⟨b1, B1, _⟩ : x + c1.length ≤ y1 ∧ (y1 : Int) ≤ z ∧ _ := b1
    refine wp_istore_n (loc' := [(2, 69), (0, w1)]) dX8_term1_4 rfl (Nat.le_of_ble_eq_true rfl) rfl ?_
    have ee : gBn f z opT 160 P x = pbd (P x) (fun y c v => gL f z opT P 160 y c v) := rfl
    rw [ee, r1] at k
    exact lq_term1 hn hB8 hB hs hq hd 160 y1 c1 v1 w1 _ Q (by omega) J1 B1 e1 (fun M9 w9 q9 => k M9 w9 ⟨(F1).tr q9.1, q9.2⟩)
set_option maxRecDepth 20000 in
set_option maxHeartbeats 4000000 in
theorem lq_added1 {l : Launch} {g : Gw} {n : Nat} (hn : 90 ≤ n) {t : Nat} {f : Nat → Int} {z : Int} {e : Int → Int} {B : Nat} (hB8 : 12 ≤ B) (hB : BT f z) {o : Int} {P : Nat → PR} (hs : CMm l g n t f z e m_X8_term1 [(9, 0)] B o P) (hq : ∀ x : Nat, (x : Int) ≤ z → PQ z x (P x)) {d : Nat} (hd : B + 1 ≤ d) : ∀ (m x : Nat) (ce : List Int) (vl : Vl) (v : Int) (u2 : Wd) (u3 : Wd) (M0 : Mm) (Q : Option Wd → Mm → Prop), z ≤ (x : Int) + m → RJm M0 t f z x o e → (x : Int) ≤ z → v = vl e → (∀ M' w, PoM M0 t f z o e (gL f z opS P m x ce vl) M' w → Q (some (0, w)) M') → Wp l g d 0 0 n m_X8_added1 5 [] [(2, 69), (0, v), u2, u3] M0 Q := by
  intro m
  induction m with
  | zero =>
    intro x ce vl v u2 u3 M0 Q hm hJ hx hv k
    refine wp_aload_n dX8_added1_5 rfl rfl ?_
    refine wp_bipush dX8_added1_6 (by decide) (by decide) ?_
    refine wp_callV0 (d' := d - 1) cv_RX8_222 69 rfl [(0, 43)] [] rfl rfl (Or.inl ⟨_, _, rfl, by decide, rfl, by omega, by omega⟩) (by omega) (Nat.le_of_ble_eq_true rfl) dX8_added1_8 rfl (Nat.le_of_ble_eq_true rfl) (by omega) (loc1 := [(2, 69), (0, 43)]) rfl ?_
    refine sp_isSg hn hJ 43 (by decide) (fun t1 => absurd t1 (by rw [lxT_end (by omega)]; decide)) (fun t1 => ?_)
    refine wp_if_ne (tgt := 23) dX8_added1_11 (by decide) (fun h => absurd h (by decide)) (fun _ => ?_)
    refine wp_aload_n dX8_added1_14 rfl rfl ?_
    refine wp_bipush dX8_added1_15 (by decide) (by decide) ?_
    refine wp_callV0 (d' := d - 1) cv_RX8_222 69 rfl [(0, 45)] [] rfl rfl (Or.inl ⟨_, _, rfl, by decide, rfl, by omega, by omega⟩) (by omega) (Nat.le_of_ble_eq_true rfl) dX8_added1_17 rfl (Nat.le_of_ble_eq_true rfl) (by omega) (loc1 := [(2, 69), (0, 45)]) rfl ?_
    refine sp_isSg hn hJ 45 (by decide) (fun t2 => absurd t2 (by rw [lxT_end (by omega)]; decide)) (fun t2 => ?_)
    refine wp_if_eq (tgt := 66) dX8_added1_20 (by decide) (fun _ => ?_) (fun h => absurd h (by decide))
    refine wp_iload_n dX8_added1_66 rfl rfl ?_
    refine wp_iret rfl dX8_added1_67 ?_
    exact k _ _ ⟨Fr.rf, hJ, hv⟩
  | succ m ih =>
    intro x ce vl v u2 u3 M0 Q hm hJ hx hv k
    refine wp_aload_n dX8_added1_5 rfl rfl ?_
    refine wp_bipush dX8_added1_6 (by decide) (by decide) ?_
    refine wp_callV0 (d' := d - 1) cv_RX8_222 69 rfl [(0, 43)] [] rfl rfl (Or.inl ⟨_, _, rfl, by decide, rfl, by omega, by omega⟩) (by omega) (Nat.le_of_ble_eq_true rfl) dX8_added1_8 rfl (Nat.le_of_ble_eq_true rfl) (by omega) (loc1 := [(2, 69), (0, 43)]) rfl ?_
    refine sp_isSg hn hJ 43 (by decide) (fun t1 => ?_) (fun t1 => ?_)
    · have g1 := ((hJ).2.1.2.2.sgn (s := 43) (by decide)).mpr t1
      refine wp_if_ne (tgt := 23) dX8_added1_11 (by decide) (fun _ => ?_) (fun h => absurd h (by decide))
      refine wp_aload_n dX8_added1_23 rfl rfl ?_
      refine wp_get 69 rfl fl_RX8_175 rfl ⟨by omega, by omega⟩ dX8_added1_24 rfl (v := 43) (g1.2) ?_
      refine wp_ldc2 (x := 43) dX8_added1_27 kl_RX8_239 (by decide) (wr_l (by omega)) ?_
      refine wp_lcmp dX8_added1_30 ?_
      change Wp _ _ _ _ _ _ _ _ ((0, 0) :: _) _ _ _
      refine wp_if_ne (tgt := 38) dX8_added1_31 (by decide) (fun h => absurd h (by decide)) (fun _ => ?_)
      refine wp_iconst dX8_added1_34 (by decide) ?_
      refine wp_goto (tgt := 39) dX8_added1_35 (by decide) ?_
      refine wp_istore_n (loc' := [(2, 69), (0, v), (0, 1), u3]) dX8_added1_39 rfl (Nat.le_of_ble_eq_true rfl) rfl ?_
      refine wp_aload_n dX8_added1_40 rfl rfl ?_
      refine wp_callV0 (d' := d - 1) cv_RX8_197 69 rfl [] [] rfl rfl (Or.inl ⟨_, _, rfl, by decide, rfl, by omega, by omega⟩) (by omega) (Nat.le_of_ble_eq_true rfl) dX8_added1_41 rfl (Nat.le_of_ble_eq_true rfl) (by omega) (loc1 := [(2, 69), (9, 0), (9, 0)]) rfl ?_
      refine sp_next hn (by omega) hB (hJ).1 ((hJ).2.1.2.1 ((hJ).2.1.2.2.ne4 (by omega))) (lxN_le hx).1 (fun M2 f2 l2 => ?_)
      have J2 := (hJ).step f2 l2
      have F2 := ((Fr.rf : Fr VMr M0 M0)).tr (f2.mono VM1.r)
      have X2 := lxN_le (f := f) hx
      have Y2 := lxA_le (f := f) hx
      refine wp_aload_n dX8_added1_44 rfl rfl ?_
      refine wp_callV0 (d' := d - 1) cv_RX8_312 69 rfl [] [] rfl rfl (Or.inl ⟨_, _, rfl, by decide, rfl, by omega, by omega⟩) (by omega) (Nat.le_of_ble_eq_true rfl) dX8_added1_45 rfl (Nat.le_of_ble_eq_true rfl) (by omega) (loc1 := [(2, 69), (9, 0)]) rfl ?_
      refine hs _ _ _ _ (by omega) J2 X2.1 (fun M3 w3 q3 => ?_)
      obtain ⟨f3, q3⟩ := q3
      have F3 := (F2).tr f3
      have b3 := hq _ X2.1
      generalize r3 : P (lxN f z x) = u3 at q3 b3
      rcases u3 with p3 | ⟨y3, c3, v3⟩
      · have D3 : DJm M3 t f z p3 o e := q3
        refine wp_istore_n (loc' := [(2, 69), (0, v), (0, 1), (0, w3)]) dX8_added1_48 rfl (Nat.le_of_ble_eq_true rfl) rfl ?_
        refine wp_iload_n dX8_added1_49 rfl rfl ?_
        refine wp_if_eq (tgt := 59) dX8_added1_50 (by decide) (fun h => absurd h (by decide)) (fun _ => ?_)
        refine wp_iload_n dX8_added1_53 rfl rfl ?_
        refine wp_iload_n dX8_added1_54 rfl rfl ?_
        refine wp_iaddw dX8_added1_55 ?_
        refine wp_goto (tgt := 62) dX8_added1_56 (by decide) ?_
        refine wp_istore_n (loc' := [(2, 69), (0, (wrap (v + w3))), (0, 1), (0, w3)]) dX8_added1_62 rfl (Nat.le_of_ble_eq_true rfl) rfl ?_
        refine wp_goto (tgt := 5) dX8_added1_63 (by decide) ?_
        have eo : opS (lxT f z x) = -12 := if_pos t1
        have ee : gL f z opS P (m + 1) x ce vl = pbd (P (lxN f z x)) (fun y c' v' => gL f z opS P m y (ce ++ c' ++ [opS (lxT f z x)]) (fun e => jn (opS (lxT f z x)) (vl e) (v' e))) := if_neg (by rw [eo]; decide)
        rw [ee, r3] at k
        exact lqd_added1 hn (by omega) (D3) (fun M9 w9 f9 d9 => k M9 w9 ⟨(F3).tr f9, d9⟩)
      · obtain ⟨J3, e3⟩ : RJm M3 t f z y3 o e ∧ w3 = v3 e := q3
        obtain ⟨b3, B3, _⟩ : (lxN f z x) + c3.length ≤ y3 ∧ (y3 : Int) ≤ z ∧ _ := b3
        refine wp_istore_n (loc' := [(2, 69), (0, v), (0, 1), (0, w3)]) dX8_added1_48 rfl (Nat.le_of_ble_eq_true rfl) rfl ?_
        refine wp_iload_n dX8_added1_49 rfl rfl ?_
        refine wp_if_eq (tgt := 59) dX8_added1_50 (by decide) (fun h => absurd h (by decide)) (fun _ => ?_)
        refine wp_iload_n dX8_added1_53 rfl rfl ?_
        refine wp_iload_n dX8_added1_54 rfl rfl ?_
        refine wp_iaddw dX8_added1_55 ?_
        refine wp_goto (tgt := 62) dX8_added1_56 (by decide) ?_
        refine wp_istore_n (loc' := [(2, 69), (0, (wrap (v + w3))), (0, 1), (0, w3)]) dX8_added1_62 rfl (Nat.le_of_ble_eq_true rfl) rfl ?_
        refine wp_goto (tgt := 5) dX8_added1_63 (by decide) ?_
        have eo : opS (lxT f z x) = -12 := if_pos t1
        have ee : gL f z opS P (m + 1) x ce vl = pbd (P (lxN f z x)) (fun y c' v' => gL f z opS P m y (ce ++ c' ++ [opS (lxT f z x)]) (fun e => jn (opS (lxT f z x)) (vl e) (v' e))) := if_neg (by rw [eo]; decide)
        rw [ee, r3] at k
        have hv2 : (wrap (v + w3)) = jn (opS (lxT f z x)) (vl e) (v3 e) := by
          rw [eo, ← hv, ← e3, jn12]
        have hg := X2.2.2 (by omega)
        exact ih y3 _ (fun e => jn (opS (lxT f z x)) (vl e) (v3 e)) _ _ _ _ Q (by omega) J3 B3 hv2 (fun M9 w9 q9 => k M9 w9 ⟨(F3).tr q9.1, q9.2⟩)
    · refine wp_if_ne (tgt := 23) dX8_added1_11 (by decide) (fun h => absurd h (by decide)) (fun _ => ?_)
      refine wp_aload_n dX8_added1_14 rfl rfl ?_
      refine wp_bipush dX8_added1_15 (by decide) (by decide) ?_
      refine wp_callV0 (d' := d - 1) cv_RX8_222 69 rfl [(0, 45)] [] rfl rfl (Or.inl ⟨_, _, rfl, by decide, rfl, by omega, by omega⟩) (by omega) (Nat.le_of_ble_eq_true rfl) dX8_added1_17 rfl (Nat.le_of_ble_eq_true rfl) (by omega) (loc1 := [(2, 69), (0, 45)]) rfl ?_
      refine sp_isSg hn hJ 45 (by decide) (fun t4 => ?_) (fun t4 => ?_)
      · have g4 := ((hJ).2.1.2.2.sgn (s := 45) (by decide)).mpr t4
        refine wp_if_eq (tgt := 66) dX8_added1_20 (by decide) (fun h => absurd h (by decide)) (fun _ => ?_)
        refine wp_aload_n dX8_added1_23 rfl rfl ?_
        refine wp_get 69 rfl fl_RX8_175 rfl ⟨by omega, by omega⟩ dX8_added1_24 rfl (v := 45) (g4.2) ?_
        refine wp_ldc2 (x := 43) dX8_added1_27 kl_RX8_239 (by decide) (wr_l (by omega)) ?_
        refine wp_lcmp dX8_added1_30 ?_
        change Wp _ _ _ _ _ _ _ _ ((0, 1) :: _) _ _ _
        refine wp_if_ne (tgt := 38) dX8_added1_31 (by decide) (fun _ => ?_) (fun h => absurd h (by decide))
        refine wp_iconst dX8_added1_38 (by decide) ?_
        refine wp_istore_n (loc' := [(2, 69), (0, v), (0, 0), u3]) dX8_added1_39 rfl (Nat.le_of_ble_eq_true rfl) rfl ?_
        refine wp_aload_n dX8_added1_40 rfl rfl ?_
        refine wp_callV0 (d' := d - 1) cv_RX8_197 69 rfl [] [] rfl rfl (Or.inl ⟨_, _, rfl, by decide, rfl, by omega, by omega⟩) (by omega) (Nat.le_of_ble_eq_true rfl) dX8_added1_41 rfl (Nat.le_of_ble_eq_true rfl) (by omega) (loc1 := [(2, 69), (9, 0), (9, 0)]) rfl ?_
        refine sp_next hn (by omega) hB (hJ).1 ((hJ).2.1.2.1 ((hJ).2.1.2.2.ne4 (by omega))) (lxN_le hx).1 (fun M5 f5 l5 => ?_)
        have J5 := (hJ).step f5 l5
        have F5 := ((Fr.rf : Fr VMr M0 M0)).tr (f5.mono VM1.r)
        have X5 := lxN_le (f := f) hx
        have Y5 := lxA_le (f := f) hx
        refine wp_aload_n dX8_added1_44 rfl rfl ?_
        refine wp_callV0 (d' := d - 1) cv_RX8_312 69 rfl [] [] rfl rfl (Or.inl ⟨_, _, rfl, by decide, rfl, by omega, by omega⟩) (by omega) (Nat.le_of_ble_eq_true rfl) dX8_added1_45 rfl (Nat.le_of_ble_eq_true rfl) (by omega) (loc1 := [(2, 69), (9, 0)]) rfl ?_
        refine hs _ _ _ _ (by omega) J5 X5.1 (fun M6 w6 q6 => ?_)
        obtain ⟨f6, q6⟩ := q6
        have F6 := (F5).tr f6
        have b6 := hq _ X5.1
        generalize r6 : P (lxN f z x) = u6 at q6 b6
        rcases u6 with p6 | ⟨y6, c6, v6⟩
        · have D6 : DJm M6 t f z p6 o e := q6
          refine wp_istore_n (loc' := [(2, 69), (0, v), (0, 0), (0, w6)]) dX8_added1_48 rfl (Nat.le_of_ble_eq_true rfl) rfl ?_
          refine wp_iload_n dX8_added1_49 rfl rfl ?_
          refine wp_if_eq (tgt := 59) dX8_added1_50 (by decide) (fun _ => ?_) (fun h => absurd h (by decide))
          refine wp_iload_n dX8_added1_59 rfl rfl ?_
          refine wp_iload_n dX8_added1_60 rfl rfl ?_
          refine wp_isubw dX8_added1_61 ?_
          refine wp_istore_n (loc' := [(2, 69), (0, (wrap (v - w6))), (0, 0), (0, w6)]) dX8_added1_62 rfl (Nat.le_of_ble_eq_true rfl) rfl ?_
          refine wp_goto (tgt := 5) dX8_added1_63 (by decide) ?_
          have eo : opS (lxT f z x) = -13 := (if_neg t1).trans (if_pos t4)
          have ee : gL f z opS P (m + 1) x ce vl = pbd (P (lxN f z x)) (fun y c' v' => gL f z opS P m y (ce ++ c' ++ [opS (lxT f z x)]) (fun e => jn (opS (lxT f z x)) (vl e) (v' e))) := if_neg (by rw [eo]; decide)
          rw [ee, r6] at k
          exact lqd_added1 hn (by omega) (D6) (fun M9 w9 f9 d9 => k M9 w9 ⟨(F6).tr f9, d9⟩)
        · obtain ⟨J6, e6⟩ : RJm M6 t f z y6 o e ∧ w6 = v6 e := q6
          obtain ⟨b6, B6, _⟩ : (lxN f z x) + c6.length ≤ y6 ∧ (y6 : Int) ≤ z ∧ _ := b6
          refine wp_istore_n (loc' := [(2, 69), (0, v), (0, 0), (0, w6)]) dX8_added1_48 rfl (Nat.le_of_ble_eq_true rfl) rfl ?_
          refine wp_iload_n dX8_added1_49 rfl rfl ?_
          refine wp_if_eq (tgt := 59) dX8_added1_50 (by decide) (fun _ => ?_) (fun h => absurd h (by decide))
          refine wp_iload_n dX8_added1_59 rfl rfl ?_
          refine wp_iload_n dX8_added1_60 rfl rfl ?_
          refine wp_isubw dX8_added1_61 ?_
          refine wp_istore_n (loc' := [(2, 69), (0, (wrap (v - w6))), (0, 0), (0, w6)]) dX8_added1_62 rfl (Nat.le_of_ble_eq_true rfl) rfl ?_
          refine wp_goto (tgt := 5) dX8_added1_63 (by decide) ?_
          have eo : opS (lxT f z x) = -13 := (if_neg t1).trans (if_pos t4)
          have ee : gL f z opS P (m + 1) x ce vl = pbd (P (lxN f z x)) (fun y c' v' => gL f z opS P m y (ce ++ c' ++ [opS (lxT f z x)]) (fun e => jn (opS (lxT f z x)) (vl e) (v' e))) := if_neg (by rw [eo]; decide)
          rw [ee, r6] at k
          have hv2 : (wrap (v - w6)) = jn (opS (lxT f z x)) (vl e) (v6 e) := by
            rw [eo, ← hv, ← e6, jn13]
          have hg := X5.2.2 (by omega)
          exact ih y6 _ (fun e => jn (opS (lxT f z x)) (vl e) (v6 e)) _ _ _ _ Q (by omega) J6 B6 hv2 (fun M9 w9 q9 => k M9 w9 ⟨(F6).tr q9.1, q9.2⟩)
      · refine wp_if_eq (tgt := 66) dX8_added1_20 (by decide) (fun _ => ?_) (fun h => absurd h (by decide))
        refine wp_iload_n dX8_added1_66 rfl rfl ?_
        refine wp_iret rfl dX8_added1_67 ?_
        have ee : gL f z opS P (m + 1) x ce vl = .inr (x, ce, vl) := if_pos (show opS (lxT f z x) = 0 from (if_neg t1).trans (if_neg t4))
        rw [ee] at k
        exact k _ _ ⟨Fr.rf, hJ, hv⟩
set_option maxRecDepth 20000 in
set_option maxHeartbeats 4000000 in
theorem cm_added1 {l : Launch} {g : Gw} {n : Nat} (hn : 90 ≤ n) {t : Nat} {f : Nat → Int} {z : Int} {e : Int → Int} {B : Nat} (hB8 : 12 ≤ B) (hB : BT f z) {o : Int} {P : Nat → PR} (hs : CMm l g n t f z e m_X8_term1 [(9, 0)] B o P) (hq : ∀ x : Nat, (x : Int) ≤ z → PQ z x (P x)) : CMm l g n t f z e m_X8_added1 [(9, 0), (9, 0), (9, 0)] (B + 1) o (gBn f z opS 160 P) := by
  intro d M0 Q x hd hJ hx k
  have hz1 := hJ.1.2.2.2.2.2.1
  refine wp_aload_n dX8_added1_0 rfl rfl ?_
  refine wp_callV0 (d' := d - 1) cv_RX8_312 69 rfl [] [] rfl rfl (Or.inl ⟨_, _, rfl, by decide, rfl, by omega, by omega⟩) (by omega) (Nat.le_of_ble_eq_true rfl) dX8_added1_1 rfl (Nat.le_of_ble_eq_true rfl) (by omega) (loc1 := [(2, 69), (9, 0)]) rfl ?_
  refine hs _ _ _ _ (by omega) hJ hx (fun M1 w1 q1 => ?_)
  obtain ⟨f1, q1⟩ := q1
  have F1 := ((Fr.rf : Fr VMr M0 M0)).tr f1
  have b1 := hq _ hx
  generalize r1 : P x = u1 at q1 b1
  rcases u1 with p1 | ⟨y1, c1, v1⟩
  · have D1 : DJm M1 t f z p1 o e := q1
    refine wp_istore_n (loc' := [(2, 69), (0, w1), (9, 0), (9, 0)]) dX8_added1_4 rfl (Nat.le_of_ble_eq_true rfl) rfl ?_
    have ee : gBn f z opS 160 P x = pbd (P x) (fun y c v => gL f z opS P 160 y c v) := rfl
    rw [ee, r1] at k
    exact lqd_added1 hn (by omega) (D1) (fun M9 w9 f9 d9 => k M9 w9 ⟨(F1).tr f9, d9⟩)
  · obtain ⟨J1, e1⟩ : RJm M1 t f z y1 o e ∧ w1 = v1 e := q1
    obtain ⟨b1, B1, _⟩ : x + c1.length ≤ y1 ∧ (y1 : Int) ≤ z ∧ _ := b1
    refine wp_istore_n (loc' := [(2, 69), (0, w1), (9, 0), (9, 0)]) dX8_added1_4 rfl (Nat.le_of_ble_eq_true rfl) rfl ?_
    have ee : gBn f z opS 160 P x = pbd (P x) (fun y c v => gL f z opS P 160 y c v) := rfl
    rw [ee, r1] at k
    exact lq_added1 hn hB8 hB hs hq hd 160 y1 c1 v1 w1 _ _ _ Q (by omega) J1 B1 e1 (fun M9 w9 q9 => k M9 w9 ⟨(F1).tr q9.1, q9.2⟩)
set_option maxRecDepth 20000 in
set_option maxHeartbeats 4000000 in
theorem lq_both1 {l : Launch} {g : Gw} {n : Nat} (hn : 90 ≤ n) {t : Nat} {f : Nat → Int} {z : Int} {e : Int → Int} {B : Nat} (hB8 : 12 ≤ B) (hB : BT f z) {o : Int} {P : Nat → PR} (hs : CMm l g n t f z e m_X8_not1 [(9, 0), (9, 0), (9, 0)] B o P) (hq : ∀ x : Nat, (x : Int) ≤ z → PQ z x (P x)) {d : Nat} (hd : B + 1 ≤ d) : ∀ (m x : Nat) (ce : List Int) (vl : Vl) (v : Int) (u2 : Wd) (M0 : Mm) (Q : Option Wd → Mm → Prop), z ≤ (x : Int) + m → RJm M0 t f z x o e → (x : Int) ≤ z → v = vl e → (∀ M' w, PoM M0 t f z o e (gL f z opA P m x ce vl) M' w → Q (some (0, w)) M') → Wp l g d 0 0 n m_X8_both1 5 [] [(2, 69), (0, v), u2] M0 Q := by
  intro m
  induction m with
  | zero =>
    intro x ce vl v u2 M0 Q hm hJ hx hv k
    refine wp_aload_n dX8_both1_5 rfl rfl ?_
    refine wp_bipush dX8_both1_6 (by decide) (by decide) ?_
    refine wp_bipush dX8_both1_8 (by decide) (by decide) ?_
    refine wp_bipush dX8_both1_10 (by decide) (by decide) ?_
    refine wp_iconst dX8_both1_12 (by decide) ?_
    refine wp_iconst dX8_both1_13 (by decide) ?_
    refine wp_iconst dX8_both1_14 (by decide) ?_
    refine wp_iconst dX8_both1_15 (by decide) ?_
    refine wp_iconst dX8_both1_16 (by decide) ?_
    refine wp_callV0 (d' := d - 1) cv_RX8_200 69 rfl [(0, 97), (0, 110), (0, 100), (0, 0), (0, 0), (0, 0), (0, 0), (0, 0)] [] rfl rfl (Or.inl ⟨_, _, rfl, by decide, rfl, by omega, by omega⟩) (by omega) (Nat.le_of_ble_eq_true rfl) dX8_both1_17 rfl (Nat.le_of_ble_eq_true rfl) (by omega) (loc1 := [(2, 69), (0, 97), (0, 110), (0, 100), (0, 0), (0, 0), (0, 0), (0, 0), (0, 0)]) rfl ?_
    refine sp_isWm_4 hn (by omega) hJ hx (fun t1 => absurd t1 (by rw [lxT_end (by omega)]; decide)) (fun t1 => ?_)
    refine wp_if_eq (tgt := 49) dX8_both1_20 (by decide) (fun _ => ?_) (fun h => absurd h (by decide))
    refine wp_iload_n dX8_both1_49 rfl rfl ?_
    refine wp_iret rfl dX8_both1_50 ?_
    exact k _ _ ⟨Fr.rf, hJ, hv⟩
  | succ m ih =>
    intro x ce vl v u2 M0 Q hm hJ hx hv k
    refine wp_aload_n dX8_both1_5 rfl rfl ?_
    refine wp_bipush dX8_both1_6 (by decide) (by decide) ?_
    refine wp_bipush dX8_both1_8 (by decide) (by decide) ?_
    refine wp_bipush dX8_both1_10 (by decide) (by decide) ?_
    refine wp_iconst dX8_both1_12 (by decide) ?_
    refine wp_iconst dX8_both1_13 (by decide) ?_
    refine wp_iconst dX8_both1_14 (by decide) ?_
    refine wp_iconst dX8_both1_15 (by decide) ?_
    refine wp_iconst dX8_both1_16 (by decide) ?_
    refine wp_callV0 (d' := d - 1) cv_RX8_200 69 rfl [(0, 97), (0, 110), (0, 100), (0, 0), (0, 0), (0, 0), (0, 0), (0, 0)] [] rfl rfl (Or.inl ⟨_, _, rfl, by decide, rfl, by omega, by omega⟩) (by omega) (Nat.le_of_ble_eq_true rfl) dX8_both1_17 rfl (Nat.le_of_ble_eq_true rfl) (by omega) (loc1 := [(2, 69), (0, 97), (0, 110), (0, 100), (0, 0), (0, 0), (0, 0), (0, 0), (0, 0)]) rfl ?_
    refine sp_isWm_4 hn (by omega) hJ hx (fun t1 => ?_) (fun t1 => ?_)
    · refine wp_if_eq (tgt := 49) dX8_both1_20 (by decide) (fun h => absurd h (by decide)) (fun _ => ?_)
      refine wp_aload_n dX8_both1_23 rfl rfl ?_
      refine wp_callV0 (d' := d - 1) cv_RX8_197 69 rfl [] [] rfl rfl (Or.inl ⟨_, _, rfl, by decide, rfl, by omega, by omega⟩) (by omega) (Nat.le_of_ble_eq_true rfl) dX8_both1_24 rfl (Nat.le_of_ble_eq_true rfl) (by omega) (loc1 := [(2, 69), (9, 0), (9, 0)]) rfl ?_
      refine sp_next hn (by omega) hB (hJ).1 ((hJ).2.1.2.1 ((hJ).2.1.2.2.ne4 (by omega))) (lxN_le hx).1 (fun M2 f2 l2 => ?_)
      have J2 := (hJ).step f2 l2
      have F2 := ((Fr.rf : Fr VMr M0 M0)).tr (f2.mono VM1.r)
      have X2 := lxN_le (f := f) hx
      have Y2 := lxA_le (f := f) hx
      refine wp_aload_n dX8_both1_27 rfl rfl ?_
      refine wp_callV0 (d' := d - 1) cv_RX8_318 69 rfl [] [] rfl rfl (Or.inl ⟨_, _, rfl, by decide, rfl, by omega, by omega⟩) (by omega) (Nat.le_of_ble_eq_true rfl) dX8_both1_28 rfl (Nat.le_of_ble_eq_true rfl) (by omega) (loc1 := [(2, 69), (9, 0), (9, 0), (9, 0)]) rfl ?_
      refine hs _ _ _ _ (by omega) J2 X2.1 (fun M3 w3 q3 => ?_)
      obtain ⟨f3, q3⟩ := q3
      have F3 := (F2).tr f3
      have b3 := hq _ X2.1
      generalize r3 : P (lxN f z x) = u3 at q3 b3
      rcases u3 with p3 | ⟨y3, c3, v3⟩
      · have D3 : DJm M3 t f z p3 o e := q3
        refine wp_istore_n (loc' := [(2, 69), (0, v), (0, w3)]) dX8_both1_31 rfl (Nat.le_of_ble_eq_true rfl) rfl ?_
        refine wp_iload_n dX8_both1_32 rfl rfl ?_
        refine wp_if_eq (tgt := 44) dX8_both1_33 (by decide) (fun h33 => ?_) (fun h33 => ?_)
        · refine wp_iconst dX8_both1_44 (by decide) ?_
          refine wp_istore_n (loc' := [(2, 69), (0, 0), (0, w3)]) dX8_both1_45 rfl (Nat.le_of_ble_eq_true rfl) rfl ?_
          refine wp_goto (tgt := 5) dX8_both1_46 (by decide) ?_
          have eo : opA (lxT f z x) = -8 := if_pos t1
          have ee : gL f z opA P (m + 1) x ce vl = pbd (P (lxN f z x)) (fun y c' v' => gL f z opA P m y (ce ++ c' ++ [opA (lxT f z x)]) (fun e => jn (opA (lxT f z x)) (vl e) (v' e))) := if_neg (by rw [eo]; decide)
          rw [ee, r3] at k
          exact lqd_both1 hn (by omega) (D3) (fun M9 w9 f9 d9 => k M9 w9 ⟨(F3).tr f9, d9⟩)
        · refine wp_iload_n dX8_both1_36 rfl rfl ?_
          refine wp_if_eq (tgt := 44) dX8_both1_37 (by decide) (fun h37 => ?_) (fun h37 => ?_)
          · refine wp_iconst dX8_both1_44 (by decide) ?_
            refine wp_istore_n (loc' := [(2, 69), (0, 0), (0, w3)]) dX8_both1_45 rfl (Nat.le_of_ble_eq_true rfl) rfl ?_
            refine wp_goto (tgt := 5) dX8_both1_46 (by decide) ?_
            have eo : opA (lxT f z x) = -8 := if_pos t1
            have ee : gL f z opA P (m + 1) x ce vl = pbd (P (lxN f z x)) (fun y c' v' => gL f z opA P m y (ce ++ c' ++ [opA (lxT f z x)]) (fun e => jn (opA (lxT f z x)) (vl e) (v' e))) := if_neg (by rw [eo]; decide)
            rw [ee, r3] at k
            exact lqd_both1 hn (by omega) (D3) (fun M9 w9 f9 d9 => k M9 w9 ⟨(F3).tr f9, d9⟩)
          · refine wp_iconst dX8_both1_40 (by decide) ?_
            refine wp_goto (tgt := 45) dX8_both1_41 (by decide) ?_
            refine wp_istore_n (loc' := [(2, 69), (0, 1), (0, w3)]) dX8_both1_45 rfl (Nat.le_of_ble_eq_true rfl) rfl ?_
            refine wp_goto (tgt := 5) dX8_both1_46 (by decide) ?_
            have eo : opA (lxT f z x) = -8 := if_pos t1
            have ee : gL f z opA P (m + 1) x ce vl = pbd (P (lxN f z x)) (fun y c' v' => gL f z opA P m y (ce ++ c' ++ [opA (lxT f z x)]) (fun e => jn (opA (lxT f z x)) (vl e) (v' e))) := if_neg (by rw [eo]; decide)
            rw [ee, r3] at k
            exact lqd_both1 hn (by omega) (D3) (fun M9 w9 f9 d9 => k M9 w9 ⟨(F3).tr f9, d9⟩)
      · obtain ⟨J3, e3⟩ : RJm M3 t f z y3 o e ∧ w3 = v3 e := q3
        obtain ⟨b3, B3, _⟩ : (lxN f z x) + c3.length ≤ y3 ∧ (y3 : Int) ≤ z ∧ _ := b3
        refine wp_istore_n (loc' := [(2, 69), (0, v), (0, w3)]) dX8_both1_31 rfl (Nat.le_of_ble_eq_true rfl) rfl ?_
        refine wp_iload_n dX8_both1_32 rfl rfl ?_
        refine wp_if_eq (tgt := 44) dX8_both1_33 (by decide) (fun h33 => ?_) (fun h33 => ?_)
        · refine wp_iconst dX8_both1_44 (by decide) ?_
          refine wp_istore_n (loc' := [(2, 69), (0, 0), (0, w3)]) dX8_both1_45 rfl (Nat.le_of_ble_eq_true rfl) rfl ?_
          refine wp_goto (tgt := 5) dX8_both1_46 (by decide) ?_
          have eo : opA (lxT f z x) = -8 := if_pos t1
          have ee : gL f z opA P (m + 1) x ce vl = pbd (P (lxN f z x)) (fun y c' v' => gL f z opA P m y (ce ++ c' ++ [opA (lxT f z x)]) (fun e => jn (opA (lxT f z x)) (vl e) (v' e))) := if_neg (by rw [eo]; decide)
          rw [ee, r3] at k
          have hv2 : 0 = jn (opA (lxT f z x)) (vl e) (v3 e) := by
            rw [eo, ← hv, ← e3, jn8]
            first | exact (if_pos (by omega)).symm | exact (if_neg (by omega)).symm
          have hg := X2.2.2 (by omega)
          exact ih y3 _ (fun e => jn (opA (lxT f z x)) (vl e) (v3 e)) _ _ _ Q (by omega) J3 B3 hv2 (fun M9 w9 q9 => k M9 w9 ⟨(F3).tr q9.1, q9.2⟩)
        · refine wp_iload_n dX8_both1_36 rfl rfl ?_
          refine wp_if_eq (tgt := 44) dX8_both1_37 (by decide) (fun h37 => ?_) (fun h37 => ?_)
          · refine wp_iconst dX8_both1_44 (by decide) ?_
            refine wp_istore_n (loc' := [(2, 69), (0, 0), (0, w3)]) dX8_both1_45 rfl (Nat.le_of_ble_eq_true rfl) rfl ?_
            refine wp_goto (tgt := 5) dX8_both1_46 (by decide) ?_
            have eo : opA (lxT f z x) = -8 := if_pos t1
            have ee : gL f z opA P (m + 1) x ce vl = pbd (P (lxN f z x)) (fun y c' v' => gL f z opA P m y (ce ++ c' ++ [opA (lxT f z x)]) (fun e => jn (opA (lxT f z x)) (vl e) (v' e))) := if_neg (by rw [eo]; decide)
            rw [ee, r3] at k
            have hv2 : 0 = jn (opA (lxT f z x)) (vl e) (v3 e) := by
              rw [eo, ← hv, ← e3, jn8]
              first | exact (if_pos (by omega)).symm | exact (if_neg (by omega)).symm
            have hg := X2.2.2 (by omega)
            exact ih y3 _ (fun e => jn (opA (lxT f z x)) (vl e) (v3 e)) _ _ _ Q (by omega) J3 B3 hv2 (fun M9 w9 q9 => k M9 w9 ⟨(F3).tr q9.1, q9.2⟩)
          · refine wp_iconst dX8_both1_40 (by decide) ?_
            refine wp_goto (tgt := 45) dX8_both1_41 (by decide) ?_
            refine wp_istore_n (loc' := [(2, 69), (0, 1), (0, w3)]) dX8_both1_45 rfl (Nat.le_of_ble_eq_true rfl) rfl ?_
            refine wp_goto (tgt := 5) dX8_both1_46 (by decide) ?_
            have eo : opA (lxT f z x) = -8 := if_pos t1
            have ee : gL f z opA P (m + 1) x ce vl = pbd (P (lxN f z x)) (fun y c' v' => gL f z opA P m y (ce ++ c' ++ [opA (lxT f z x)]) (fun e => jn (opA (lxT f z x)) (vl e) (v' e))) := if_neg (by rw [eo]; decide)
            rw [ee, r3] at k
            have hv2 : 1 = jn (opA (lxT f z x)) (vl e) (v3 e) := by
              rw [eo, ← hv, ← e3, jn8]
              first | exact (if_pos (by omega)).symm | exact (if_neg (by omega)).symm
            have hg := X2.2.2 (by omega)
            exact ih y3 _ (fun e => jn (opA (lxT f z x)) (vl e) (v3 e)) _ _ _ Q (by omega) J3 B3 hv2 (fun M9 w9 q9 => k M9 w9 ⟨(F3).tr q9.1, q9.2⟩)
    · refine wp_if_eq (tgt := 49) dX8_both1_20 (by decide) (fun _ => ?_) (fun h => absurd h (by decide))
      refine wp_iload_n dX8_both1_49 rfl rfl ?_
      refine wp_iret rfl dX8_both1_50 ?_
      have ee : gL f z opA P (m + 1) x ce vl = .inr (x, ce, vl) := if_pos (show opA (lxT f z x) = 0 from if_neg t1)
      rw [ee] at k
      exact k _ _ ⟨Fr.rf, hJ, hv⟩
set_option maxRecDepth 20000 in
set_option maxHeartbeats 4000000 in
theorem cm_both1 {l : Launch} {g : Gw} {n : Nat} (hn : 90 ≤ n) {t : Nat} {f : Nat → Int} {z : Int} {e : Int → Int} {B : Nat} (hB8 : 12 ≤ B) (hB : BT f z) {o : Int} {P : Nat → PR} (hs : CMm l g n t f z e m_X8_not1 [(9, 0), (9, 0), (9, 0)] B o P) (hq : ∀ x : Nat, (x : Int) ≤ z → PQ z x (P x)) : CMm l g n t f z e m_X8_both1 [(9, 0), (9, 0)] (B + 1) o (gBn f z opA 160 P) := by
  intro d M0 Q x hd hJ hx k
  have hz1 := hJ.1.2.2.2.2.2.1
  refine wp_aload_n dX8_both1_0 rfl rfl ?_
  refine wp_callV0 (d' := d - 1) cv_RX8_318 69 rfl [] [] rfl rfl (Or.inl ⟨_, _, rfl, by decide, rfl, by omega, by omega⟩) (by omega) (Nat.le_of_ble_eq_true rfl) dX8_both1_1 rfl (Nat.le_of_ble_eq_true rfl) (by omega) (loc1 := [(2, 69), (9, 0), (9, 0), (9, 0)]) rfl ?_
  refine hs _ _ _ _ (by omega) hJ hx (fun M1 w1 q1 => ?_)
  obtain ⟨f1, q1⟩ := q1
  have F1 := ((Fr.rf : Fr VMr M0 M0)).tr f1
  have b1 := hq _ hx
  generalize r1 : P x = u1 at q1 b1
  rcases u1 with p1 | ⟨y1, c1, v1⟩
  · have D1 : DJm M1 t f z p1 o e := q1
    refine wp_istore_n (loc' := [(2, 69), (0, w1), (9, 0)]) dX8_both1_4 rfl (Nat.le_of_ble_eq_true rfl) rfl ?_
    have ee : gBn f z opA 160 P x = pbd (P x) (fun y c v => gL f z opA P 160 y c v) := rfl
    rw [ee, r1] at k
    exact lqd_both1 hn (by omega) (D1) (fun M9 w9 f9 d9 => k M9 w9 ⟨(F1).tr f9, d9⟩)
  · obtain ⟨J1, e1⟩ : RJm M1 t f z y1 o e ∧ w1 = v1 e := q1
    obtain ⟨b1, B1, _⟩ : x + c1.length ≤ y1 ∧ (y1 : Int) ≤ z ∧ _ := b1
    refine wp_istore_n (loc' := [(2, 69), (0, w1), (9, 0)]) dX8_both1_4 rfl (Nat.le_of_ble_eq_true rfl) rfl ?_
    have ee : gBn f z opA 160 P x = pbd (P x) (fun y c v => gL f z opA P 160 y c v) := rfl
    rw [ee, r1] at k
    exact lq_both1 hn hB8 hB hs hq hd 160 y1 c1 v1 w1 _ _ Q (by omega) J1 B1 e1 (fun M9 w9 q9 => k M9 w9 ⟨(F1).tr q9.1, q9.2⟩)
set_option maxRecDepth 20000 in
set_option maxHeartbeats 4000000 in
theorem lq_either1 {l : Launch} {g : Gw} {n : Nat} (hn : 90 ≤ n) {t : Nat} {f : Nat → Int} {z : Int} {e : Int → Int} {B : Nat} (hB8 : 12 ≤ B) (hB : BT f z) {o : Int} {P : Nat → PR} (hs : CMm l g n t f z e m_X8_both1 [(9, 0), (9, 0)] B o P) (hq : ∀ x : Nat, (x : Int) ≤ z → PQ z x (P x)) {d : Nat} (hd : B + 1 ≤ d) : ∀ (m x : Nat) (ce : List Int) (vl : Vl) (v : Int) (u2 : Wd) (M0 : Mm) (Q : Option Wd → Mm → Prop), z ≤ (x : Int) + m → RJm M0 t f z x o e → (x : Int) ≤ z → v = vl e → (∀ M' w, PoM M0 t f z o e (gL f z opO P m x ce vl) M' w → Q (some (0, w)) M') → Wp l g d 0 0 n m_X8_either1 5 [] [(2, 69), (0, v), u2] M0 Q := by
  intro m
  induction m with
  | zero =>
    intro x ce vl v u2 M0 Q hm hJ hx hv k
    refine wp_aload_n dX8_either1_5 rfl rfl ?_
    refine wp_bipush dX8_either1_6 (by decide) (by decide) ?_
    refine wp_bipush dX8_either1_8 (by decide) (by decide) ?_
    refine wp_iconst dX8_either1_10 (by decide) ?_
    refine wp_iconst dX8_either1_11 (by decide) ?_
    refine wp_iconst dX8_either1_12 (by decide) ?_
    refine wp_iconst dX8_either1_13 (by decide) ?_
    refine wp_iconst dX8_either1_14 (by decide) ?_
    refine wp_iconst dX8_either1_15 (by decide) ?_
    refine wp_callV0 (d' := d - 1) cv_RX8_200 69 rfl [(0, 111), (0, 114), (0, 0), (0, 0), (0, 0), (0, 0), (0, 0), (0, 0)] [] rfl rfl (Or.inl ⟨_, _, rfl, by decide, rfl, by omega, by omega⟩) (by omega) (Nat.le_of_ble_eq_true rfl) dX8_either1_16 rfl (Nat.le_of_ble_eq_true rfl) (by omega) (loc1 := [(2, 69), (0, 111), (0, 114), (0, 0), (0, 0), (0, 0), (0, 0), (0, 0), (0, 0)]) rfl ?_
    refine sp_isWm_3 hn (by omega) hJ hx (fun t1 => absurd t1 (by rw [lxT_end (by omega)]; decide)) (fun t1 => ?_)
    refine wp_if_eq (tgt := 48) dX8_either1_19 (by decide) (fun _ => ?_) (fun h => absurd h (by decide))
    refine wp_iload_n dX8_either1_48 rfl rfl ?_
    refine wp_iret rfl dX8_either1_49 ?_
    exact k _ _ ⟨Fr.rf, hJ, hv⟩
  | succ m ih =>
    intro x ce vl v u2 M0 Q hm hJ hx hv k
    refine wp_aload_n dX8_either1_5 rfl rfl ?_
    refine wp_bipush dX8_either1_6 (by decide) (by decide) ?_
    refine wp_bipush dX8_either1_8 (by decide) (by decide) ?_
    refine wp_iconst dX8_either1_10 (by decide) ?_
    refine wp_iconst dX8_either1_11 (by decide) ?_
    refine wp_iconst dX8_either1_12 (by decide) ?_
    refine wp_iconst dX8_either1_13 (by decide) ?_
    refine wp_iconst dX8_either1_14 (by decide) ?_
    refine wp_iconst dX8_either1_15 (by decide) ?_
    refine wp_callV0 (d' := d - 1) cv_RX8_200 69 rfl [(0, 111), (0, 114), (0, 0), (0, 0), (0, 0), (0, 0), (0, 0), (0, 0)] [] rfl rfl (Or.inl ⟨_, _, rfl, by decide, rfl, by omega, by omega⟩) (by omega) (Nat.le_of_ble_eq_true rfl) dX8_either1_16 rfl (Nat.le_of_ble_eq_true rfl) (by omega) (loc1 := [(2, 69), (0, 111), (0, 114), (0, 0), (0, 0), (0, 0), (0, 0), (0, 0), (0, 0)]) rfl ?_
    refine sp_isWm_3 hn (by omega) hJ hx (fun t1 => ?_) (fun t1 => ?_)
    · refine wp_if_eq (tgt := 48) dX8_either1_19 (by decide) (fun h => absurd h (by decide)) (fun _ => ?_)
      refine wp_aload_n dX8_either1_22 rfl rfl ?_
      refine wp_callV0 (d' := d - 1) cv_RX8_197 69 rfl [] [] rfl rfl (Or.inl ⟨_, _, rfl, by decide, rfl, by omega, by omega⟩) (by omega) (Nat.le_of_ble_eq_true rfl) dX8_either1_23 rfl (Nat.le_of_ble_eq_true rfl) (by omega) (loc1 := [(2, 69), (9, 0), (9, 0)]) rfl ?_
      refine sp_next hn (by omega) hB (hJ).1 ((hJ).2.1.2.1 ((hJ).2.1.2.2.ne4 (by omega))) (lxN_le hx).1 (fun M2 f2 l2 => ?_)
      have J2 := (hJ).step f2 l2
      have F2 := ((Fr.rf : Fr VMr M0 M0)).tr (f2.mono VM1.r)
      have X2 := lxN_le (f := f) hx
      have Y2 := lxA_le (f := f) hx
      refine wp_aload_n dX8_either1_26 rfl rfl ?_
      refine wp_callV0 (d' := d - 1) cv_RX8_321 69 rfl [] [] rfl rfl (Or.inl ⟨_, _, rfl, by decide, rfl, by omega, by omega⟩) (by omega) (Nat.le_of_ble_eq_true rfl) dX8_either1_27 rfl (Nat.le_of_ble_eq_true rfl) (by omega) (loc1 := [(2, 69), (9, 0), (9, 0)]) rfl ?_
      refine hs _ _ _ _ (by omega) J2 X2.1 (fun M3 w3 q3 => ?_)
      obtain ⟨f3, q3⟩ := q3
      have F3 := (F2).tr f3
      have b3 := hq _ X2.1
      generalize r3 : P (lxN f z x) = u3 at q3 b3
      rcases u3 with p3 | ⟨y3, c3, v3⟩
      · have D3 : DJm M3 t f z p3 o e := q3
        refine wp_istore_n (loc' := [(2, 69), (0, v), (0, w3)]) dX8_either1_30 rfl (Nat.le_of_ble_eq_true rfl) rfl ?_
        refine wp_iload_n dX8_either1_31 rfl rfl ?_
        refine wp_if_ne (tgt := 39) dX8_either1_32 (by decide) (fun h32 => ?_) (fun h32 => ?_)
        · refine wp_iconst dX8_either1_39 (by decide) ?_
          refine wp_goto (tgt := 44) dX8_either1_40 (by decide) ?_
          refine wp_istore_n (loc' := [(2, 69), (0, 1), (0, w3)]) dX8_either1_44 rfl (Nat.le_of_ble_eq_true rfl) rfl ?_
          refine wp_goto (tgt := 5) dX8_either1_45 (by decide) ?_
          have eo : opO (lxT f z x) = -7 := if_pos t1
          have ee : gL f z opO P (m + 1) x ce vl = pbd (P (lxN f z x)) (fun y c' v' => gL f z opO P m y (ce ++ c' ++ [opO (lxT f z x)]) (fun e => jn (opO (lxT f z x)) (vl e) (v' e))) := if_neg (by rw [eo]; decide)
          rw [ee, r3] at k
          exact lqd_either1 hn (by omega) (D3) (fun M9 w9 f9 d9 => k M9 w9 ⟨(F3).tr f9, d9⟩)
        · refine wp_iload_n dX8_either1_35 rfl rfl ?_
          refine wp_if_eq (tgt := 43) dX8_either1_36 (by decide) (fun h36 => ?_) (fun h36 => ?_)
          · refine wp_iconst dX8_either1_43 (by decide) ?_
            refine wp_istore_n (loc' := [(2, 69), (0, 0), (0, w3)]) dX8_either1_44 rfl (Nat.le_of_ble_eq_true rfl) rfl ?_
            refine wp_goto (tgt := 5) dX8_either1_45 (by decide) ?_
            have eo : opO (lxT f z x) = -7 := if_pos t1
            have ee : gL f z opO P (m + 1) x ce vl = pbd (P (lxN f z x)) (fun y c' v' => gL f z opO P m y (ce ++ c' ++ [opO (lxT f z x)]) (fun e => jn (opO (lxT f z x)) (vl e) (v' e))) := if_neg (by rw [eo]; decide)
            rw [ee, r3] at k
            exact lqd_either1 hn (by omega) (D3) (fun M9 w9 f9 d9 => k M9 w9 ⟨(F3).tr f9, d9⟩)
          · refine wp_iconst dX8_either1_39 (by decide) ?_
            refine wp_goto (tgt := 44) dX8_either1_40 (by decide) ?_
            refine wp_istore_n (loc' := [(2, 69), (0, 1), (0, w3)]) dX8_either1_44 rfl (Nat.le_of_ble_eq_true rfl) rfl ?_
            refine wp_goto (tgt := 5) dX8_either1_45 (by decide) ?_
            have eo : opO (lxT f z x) = -7 := if_pos t1
            have ee : gL f z opO P (m + 1) x ce vl = pbd (P (lxN f z x)) (fun y c' v' => gL f z opO P m y (ce ++ c' ++ [opO (lxT f z x)]) (fun e => jn (opO (lxT f z x)) (vl e) (v' e))) := if_neg (by rw [eo]; decide)
            rw [ee, r3] at k
            exact lqd_either1 hn (by omega) (D3) (fun M9 w9 f9 d9 => k M9 w9 ⟨(F3).tr f9, d9⟩)
      · obtain ⟨J3, e3⟩ : RJm M3 t f z y3 o e ∧ w3 = v3 e := q3
        obtain ⟨b3, B3, _⟩ : (lxN f z x) + c3.length ≤ y3 ∧ (y3 : Int) ≤ z ∧ _ := b3
        refine wp_istore_n (loc' := [(2, 69), (0, v), (0, w3)]) dX8_either1_30 rfl (Nat.le_of_ble_eq_true rfl) rfl ?_
        refine wp_iload_n dX8_either1_31 rfl rfl ?_
        refine wp_if_ne (tgt := 39) dX8_either1_32 (by decide) (fun h32 => ?_) (fun h32 => ?_)
        · refine wp_iconst dX8_either1_39 (by decide) ?_
          refine wp_goto (tgt := 44) dX8_either1_40 (by decide) ?_
          refine wp_istore_n (loc' := [(2, 69), (0, 1), (0, w3)]) dX8_either1_44 rfl (Nat.le_of_ble_eq_true rfl) rfl ?_
          refine wp_goto (tgt := 5) dX8_either1_45 (by decide) ?_
          have eo : opO (lxT f z x) = -7 := if_pos t1
          have ee : gL f z opO P (m + 1) x ce vl = pbd (P (lxN f z x)) (fun y c' v' => gL f z opO P m y (ce ++ c' ++ [opO (lxT f z x)]) (fun e => jn (opO (lxT f z x)) (vl e) (v' e))) := if_neg (by rw [eo]; decide)
          rw [ee, r3] at k
          have hv2 : 1 = jn (opO (lxT f z x)) (vl e) (v3 e) := by
            rw [eo, ← hv, ← e3, jn7]
            first | exact (if_pos (by omega)).symm | exact (if_neg (by omega)).symm
          have hg := X2.2.2 (by omega)
          exact ih y3 _ (fun e => jn (opO (lxT f z x)) (vl e) (v3 e)) _ _ _ Q (by omega) J3 B3 hv2 (fun M9 w9 q9 => k M9 w9 ⟨(F3).tr q9.1, q9.2⟩)
        · refine wp_iload_n dX8_either1_35 rfl rfl ?_
          refine wp_if_eq (tgt := 43) dX8_either1_36 (by decide) (fun h36 => ?_) (fun h36 => ?_)
          · refine wp_iconst dX8_either1_43 (by decide) ?_
            refine wp_istore_n (loc' := [(2, 69), (0, 0), (0, w3)]) dX8_either1_44 rfl (Nat.le_of_ble_eq_true rfl) rfl ?_
            refine wp_goto (tgt := 5) dX8_either1_45 (by decide) ?_
            have eo : opO (lxT f z x) = -7 := if_pos t1
            have ee : gL f z opO P (m + 1) x ce vl = pbd (P (lxN f z x)) (fun y c' v' => gL f z opO P m y (ce ++ c' ++ [opO (lxT f z x)]) (fun e => jn (opO (lxT f z x)) (vl e) (v' e))) := if_neg (by rw [eo]; decide)
            rw [ee, r3] at k
            have hv2 : 0 = jn (opO (lxT f z x)) (vl e) (v3 e) := by
              rw [eo, ← hv, ← e3, jn7]
              first | exact (if_pos (by omega)).symm | exact (if_neg (by omega)).symm
            have hg := X2.2.2 (by omega)
            exact ih y3 _ (fun e => jn (opO (lxT f z x)) (vl e) (v3 e)) _ _ _ Q (by omega) J3 B3 hv2 (fun M9 w9 q9 => k M9 w9 ⟨(F3).tr q9.1, q9.2⟩)
          · refine wp_iconst dX8_either1_39 (by decide) ?_
            refine wp_goto (tgt := 44) dX8_either1_40 (by decide) ?_
            refine wp_istore_n (loc' := [(2, 69), (0, 1), (0, w3)]) dX8_either1_44 rfl (Nat.le_of_ble_eq_true rfl) rfl ?_
            refine wp_goto (tgt := 5) dX8_either1_45 (by decide) ?_
            have eo : opO (lxT f z x) = -7 := if_pos t1
            have ee : gL f z opO P (m + 1) x ce vl = pbd (P (lxN f z x)) (fun y c' v' => gL f z opO P m y (ce ++ c' ++ [opO (lxT f z x)]) (fun e => jn (opO (lxT f z x)) (vl e) (v' e))) := if_neg (by rw [eo]; decide)
            rw [ee, r3] at k
            have hv2 : 1 = jn (opO (lxT f z x)) (vl e) (v3 e) := by
              rw [eo, ← hv, ← e3, jn7]
              first | exact (if_pos (by omega)).symm | exact (if_neg (by omega)).symm
            have hg := X2.2.2 (by omega)
            exact ih y3 _ (fun e => jn (opO (lxT f z x)) (vl e) (v3 e)) _ _ _ Q (by omega) J3 B3 hv2 (fun M9 w9 q9 => k M9 w9 ⟨(F3).tr q9.1, q9.2⟩)
    · refine wp_if_eq (tgt := 48) dX8_either1_19 (by decide) (fun _ => ?_) (fun h => absurd h (by decide))
      refine wp_iload_n dX8_either1_48 rfl rfl ?_
      refine wp_iret rfl dX8_either1_49 ?_
      have ee : gL f z opO P (m + 1) x ce vl = .inr (x, ce, vl) := if_pos (show opO (lxT f z x) = 0 from if_neg t1)
      rw [ee] at k
      exact k _ _ ⟨Fr.rf, hJ, hv⟩
set_option maxRecDepth 20000 in
set_option maxHeartbeats 4000000 in
theorem cm_either1 {l : Launch} {g : Gw} {n : Nat} (hn : 90 ≤ n) {t : Nat} {f : Nat → Int} {z : Int} {e : Int → Int} {B : Nat} (hB8 : 12 ≤ B) (hB : BT f z) {o : Int} {P : Nat → PR} (hs : CMm l g n t f z e m_X8_both1 [(9, 0), (9, 0)] B o P) (hq : ∀ x : Nat, (x : Int) ≤ z → PQ z x (P x)) : CMm l g n t f z e m_X8_either1 [(9, 0), (9, 0)] (B + 1) o (gBn f z opO 160 P) := by
  intro d M0 Q x hd hJ hx k
  have hz1 := hJ.1.2.2.2.2.2.1
  refine wp_aload_n dX8_either1_0 rfl rfl ?_
  refine wp_callV0 (d' := d - 1) cv_RX8_321 69 rfl [] [] rfl rfl (Or.inl ⟨_, _, rfl, by decide, rfl, by omega, by omega⟩) (by omega) (Nat.le_of_ble_eq_true rfl) dX8_either1_1 rfl (Nat.le_of_ble_eq_true rfl) (by omega) (loc1 := [(2, 69), (9, 0), (9, 0)]) rfl ?_
  refine hs _ _ _ _ (by omega) hJ hx (fun M1 w1 q1 => ?_)
  obtain ⟨f1, q1⟩ := q1
  have F1 := ((Fr.rf : Fr VMr M0 M0)).tr f1
  have b1 := hq _ hx
  generalize r1 : P x = u1 at q1 b1
  rcases u1 with p1 | ⟨y1, c1, v1⟩
  · have D1 : DJm M1 t f z p1 o e := q1
    refine wp_istore_n (loc' := [(2, 69), (0, w1), (9, 0)]) dX8_either1_4 rfl (Nat.le_of_ble_eq_true rfl) rfl ?_
    have ee : gBn f z opO 160 P x = pbd (P x) (fun y c v => gL f z opO P 160 y c v) := rfl
    rw [ee, r1] at k
    exact lqd_either1 hn (by omega) (D1) (fun M9 w9 f9 d9 => k M9 w9 ⟨(F1).tr f9, d9⟩)
  · obtain ⟨J1, e1⟩ : RJm M1 t f z y1 o e ∧ w1 = v1 e := q1
    obtain ⟨b1, B1, _⟩ : x + c1.length ≤ y1 ∧ (y1 : Int) ≤ z ∧ _ := b1
    refine wp_istore_n (loc' := [(2, 69), (0, w1), (9, 0)]) dX8_either1_4 rfl (Nat.le_of_ble_eq_true rfl) rfl ?_
    have ee : gBn f z opO 160 P x = pbd (P x) (fun y c v => gL f z opO P 160 y c v) := rfl
    rw [ee, r1] at k
    exact lq_either1 hn hB8 hB hs hq hd 160 y1 c1 v1 w1 _ _ Q (by omega) J1 B1 e1 (fun M9 w9 q9 => k M9 w9 ⟨(F1).tr q9.1, q9.2⟩)
set_option maxRecDepth 20000 in
set_option maxHeartbeats 4000000 in
theorem cm_atom1 {l : Launch} {g : Gw} {n : Nat} (hn : 90 ≤ n) {t : Nat} {f : Nat → Int} {z : Int} {e : Int → Int} {B : Nat} (hB8 : 12 ≤ B) (hB : BT f z) {o : Int} (ho : 0 ≤ o ∧ o < 5) {q : P3} (hq : OK3 z q) (hs1 : CMm l g n t f z e m_X8_atom2 [(9, 0)] B (o + 1) q.1) (hs3 : CMm l g n t f z e m_X8_either2 [(9, 0), (9, 0)] B (o + 1) q.2.2) : CMm l g n t f z e m_X8_atom1 [(9, 0)] (B + 1) o (oneP f z (some q)) := by
  intro d M0 Q x hd hJ hx k
  have hz1 := hJ.1.2.2.2.2.2.1
  refine wp_iconst dX8_atom1_0 (by decide) ?_
  refine wp_istore_n (loc' := [(2, 69), (0, 0)]) dX8_atom1_1 rfl (Nat.le_of_ble_eq_true rfl) rfl ?_
  refine wp_aload_n dX8_atom1_2 rfl rfl ?_
  refine wp_bipush dX8_atom1_3 (by decide) (by decide) ?_
  refine wp_callV0 (d' := d - 1) cv_RX8_222 69 rfl [(0, 45)] [] rfl rfl (Or.inl ⟨_, _, rfl, by decide, rfl, by omega, by omega⟩) (by omega) (Nat.le_of_ble_eq_true rfl) dX8_atom1_5 rfl (Nat.le_of_ble_eq_true rfl) (by omega) (loc1 := [(2, 69), (0, 45)]) rfl ?_
  refine sp_isSg hn hJ 45 (by decide) (fun t1 => ?_) (fun t1 => ?_)
  · have g1 := ((hJ).2.1.2.2.sgn (s := 45) (by decide)).mpr t1
    refine wp_if_eq (tgt := 37) dX8_atom1_8 (by decide) (fun h => absurd h (by decide)) (fun _ => ?_)
    refine wp_aload_n dX8_atom1_11 rfl rfl ?_
    refine wp_callV0 (d' := d - 1) cv_RX8_225 69 rfl [] [] rfl rfl (Or.inl ⟨_, _, rfl, by decide, rfl, by omega, by omega⟩) (by omega) (Nat.le_of_ble_eq_true rfl) dX8_atom1_12 rfl (Nat.le_of_ble_eq_true rfl) (by omega) (loc1 := [(2, 69)]) rfl ?_
    refine sp_opensm hn (by omega) hB hJ hx ho (by omega) (fun M2 J2 f2 => ?_)
    have F2 := ((Fr.rf : Fr VMr M0 M0)).tr f2
    have X2 := lxN_le (f := f) hx
    have Y2 := lxA_le (f := f) hx
    refine wp_if_eq (tgt := 161) dX8_atom1_15 (by decide) (fun h => absurd h (by decide)) (fun _ => ?_)
    refine wp_aload_n dX8_atom1_18 rfl rfl ?_
    refine wp_callV0 (d' := d - 1) cv_RX8_291 69 rfl [] [] rfl rfl (Or.inl ⟨_, _, rfl, by decide, rfl, by omega, by omega⟩) (by omega) (Nat.le_of_ble_eq_true rfl) dX8_atom1_19 rfl (Nat.le_of_ble_eq_true rfl) (by omega) (loc1 := [(2, 69), (9, 0)]) rfl ?_
    refine hs1 _ _ _ _ (by omega) J2 X2.1 (fun M3 w3 q3 => ?_)
    obtain ⟨f3, q3⟩ := q3
    have F3 := (F2).tr f3
    have b3 := hq.1 _ X2.1
    generalize r3 : q.1 (lxN f z x) = u3 at q3 b3
    rcases u3 with p3 | ⟨y3, c3, v3⟩
    · have D3 : DJm M3 t f z p3 (o + 1) e := q3
      refine wp_ineg dX8_atom1_22 ?_
      refine wp_istore_n (loc' := [(2, 69), (0, (wrap (-w3)))]) dX8_atom1_23 rfl (Nat.le_of_ble_eq_true rfl) rfl ?_
      refine wp_aload_n dX8_atom1_24 rfl rfl ?_
      refine wp_dup dX8_atom1_25 (Or.inr rfl) ?_
      refine wp_get 69 rfl fl_RX8_191 rfl ⟨by omega, by omega⟩ dX8_atom1_26 rfl (v := (o + 1)) (D3.2.1) ?_
      refine wp_iconst dX8_atom1_29 (by decide) ?_
      refine wp_isub dX8_atom1_30 (by omega) ?_
      refine wp_puti 69 rfl fl_RX8_191 rfl ⟨by omega, by omega⟩ dX8_atom1_31 rfl rfl ?_
      refine wp_goto (tgt := 161) dX8_atom1_34 (by decide) ?_
      refine wp_iload_n dX8_atom1_161 rfl rfl ?_
      refine wp_iret rfl dX8_atom1_162 ?_
      have J4 := (D3).opn (show ((o + 1) - 1) = o by omega)
      have B4 : Fr VMr M0 (mu M3 69 25 ((o + 1) - 1)) := (F3).tr fm25
      generalize (mu M3 69 25 ((o + 1) - 1)) = N4 at J4 B4 ⊢
      have ee : oneP f z (some q) x = pbd (q.1 (lxN f z x)) (fun y c v => .inr (y, c ++ [-15], fun e => wrap (-(v e)))) := (if_neg (by omega)).trans ((if_neg (by omega)).trans (if_pos t1))
      rw [ee, r3] at k
      exact k _ _ ⟨B4, J4⟩
    · obtain ⟨J3, e3⟩ : RJm M3 t f z y3 (o + 1) e ∧ w3 = v3 e := q3
      obtain ⟨b3, B3, _⟩ : (lxN f z x) + c3.length ≤ y3 ∧ (y3 : Int) ≤ z ∧ _ := b3
      refine wp_ineg dX8_atom1_22 ?_
      refine wp_istore_n (loc' := [(2, 69), (0, (wrap (-w3)))]) dX8_atom1_23 rfl (Nat.le_of_ble_eq_true rfl) rfl ?_
      refine wp_aload_n dX8_atom1_24 rfl rfl ?_
      refine wp_dup dX8_atom1_25 (Or.inr rfl) ?_
      refine wp_get 69 rfl fl_RX8_191 rfl ⟨by omega, by omega⟩ dX8_atom1_26 rfl (v := (o + 1)) (J3.2.2.1) ?_
      refine wp_iconst dX8_atom1_29 (by decide) ?_
      refine wp_isub dX8_atom1_30 (by omega) ?_
      refine wp_puti 69 rfl fl_RX8_191 rfl ⟨by omega, by omega⟩ dX8_atom1_31 rfl rfl ?_
      refine wp_goto (tgt := 161) dX8_atom1_34 (by decide) ?_
      refine wp_iload_n dX8_atom1_161 rfl rfl ?_
      refine wp_iret rfl dX8_atom1_162 ?_
      have J5 := (J3).opn (show ((o + 1) - 1) = o by omega)
      have B5 : Fr VMr M0 (mu M3 69 25 ((o + 1) - 1)) := (F3).tr fm25
      generalize (mu M3 69 25 ((o + 1) - 1)) = N5 at J5 B5 ⊢
      have ee : oneP f z (some q) x = pbd (q.1 (lxN f z x)) (fun y c v => .inr (y, c ++ [-15], fun e => wrap (-(v e)))) := (if_neg (by omega)).trans ((if_neg (by omega)).trans (if_pos t1))
      rw [ee, r3] at k
      exact k _ _ ⟨B5, J5, by rw [e3]⟩
  · refine wp_if_eq (tgt := 37) dX8_atom1_8 (by decide) (fun _ => ?_) (fun h => absurd h (by decide))
    refine wp_aload_n dX8_atom1_37 rfl rfl ?_
    refine wp_bipush dX8_atom1_38 (by decide) (by decide) ?_
    refine wp_callV0 (d' := d - 1) cv_RX8_222 69 rfl [(0, 40)] [] rfl rfl (Or.inl ⟨_, _, rfl, by decide, rfl, by omega, by omega⟩) (by omega) (Nat.le_of_ble_eq_true rfl) dX8_atom1_40 rfl (Nat.le_of_ble_eq_true rfl) (by omega) (loc1 := [(2, 69), (0, 40)]) rfl ?_
    refine sp_isSg hn hJ 40 (by decide) (fun t6 => ?_) (fun t6 => ?_)
    · have g6 := ((hJ).2.1.2.2.sgn (s := 40) (by decide)).mpr t6
      refine wp_if_eq (tgt := 95) dX8_atom1_43 (by decide) (fun h => absurd h (by decide)) (fun _ => ?_)
      refine wp_aload_n dX8_atom1_46 rfl rfl ?_
      refine wp_callV0 (d' := d - 1) cv_RX8_225 69 rfl [] [] rfl rfl (Or.inl ⟨_, _, rfl, by decide, rfl, by omega, by omega⟩) (by omega) (Nat.le_of_ble_eq_true rfl) dX8_atom1_47 rfl (Nat.le_of_ble_eq_true rfl) (by omega) (loc1 := [(2, 69)]) rfl ?_
      refine sp_opensm hn (by omega) hB hJ hx ho (by omega) (fun M7 J7 f7 => ?_)
      have F7 := ((Fr.rf : Fr VMr M0 M0)).tr f7
      have X7 := lxN_le (f := f) hx
      have Y7 := lxA_le (f := f) hx
      refine wp_if_eq (tgt := 161) dX8_atom1_50 (by decide) (fun h => absurd h (by decide)) (fun _ => ?_)
      refine wp_aload_n dX8_atom1_53 rfl rfl ?_
      refine wp_callV0 (d' := d - 1) cv_RX8_306 69 rfl [] [] rfl rfl (Or.inl ⟨_, _, rfl, by decide, rfl, by omega, by omega⟩) (by omega) (Nat.le_of_ble_eq_true rfl) dX8_atom1_54 rfl (Nat.le_of_ble_eq_true rfl) (by omega) (loc1 := [(2, 69), (9, 0), (9, 0)]) rfl ?_
      refine hs3 _ _ _ _ (by omega) J7 X7.1 (fun M8 w8 q8 => ?_)
      obtain ⟨f8, q8⟩ := q8
      have F8 := (F7).tr f8
      have b8 := hq.2.2 _ X7.1
      generalize r8 : q.2.2 (lxN f z x) = u8 at q8 b8
      rcases u8 with p8 | ⟨y8, c8, v8⟩
      · have D8 : DJm M8 t f z p8 (o + 1) e := q8
        refine wp_istore_n (loc' := [(2, 69), (0, w8)]) dX8_atom1_57 rfl (Nat.le_of_ble_eq_true rfl) rfl ?_
        refine wp_aload_n dX8_atom1_58 rfl rfl ?_
        refine wp_bipush dX8_atom1_59 (by decide) (by decide) ?_
        refine wp_callV0 (d' := d - 1) cv_RX8_222 69 rfl [(0, 41)] [] rfl rfl (Or.inl ⟨_, _, rfl, by decide, rfl, by omega, by omega⟩) (by omega) (Nat.le_of_ble_eq_true rfl) dX8_atom1_61 rfl (Nat.le_of_ble_eq_true rfl) (by omega) (loc1 := [(2, 69), (0, 41)]) rfl ?_
        refine sp_isSd hn D8 ?_
        refine wp_if_ne (tgt := 71) dX8_atom1_64 (by decide) (fun h => absurd h (by decide)) (fun _ => ?_)
        refine wp_aload_n dX8_atom1_67 rfl rfl ?_
        refine wp_callV0 (d' := d - 1) cv_RX8_194 69 rfl [] [] rfl rfl (Or.inl ⟨_, _, rfl, by decide, rfl, by omega, by omega⟩) (by omega) (Nat.le_of_ble_eq_true rfl) dX8_atom1_68 rfl (Nat.le_of_ble_eq_true rfl) (by omega) (loc1 := [(2, 69)]) rfl ?_
        refine sp_failmD hn D8 ?_
        refine wp_aload_n dX8_atom1_71 rfl rfl ?_
        refine wp_dup dX8_atom1_72 (Or.inr rfl) ?_
        refine wp_get 69 rfl fl_RX8_191 rfl ⟨by omega, by omega⟩ dX8_atom1_73 rfl (v := (o + 1)) (D8.2.1) ?_
        refine wp_iconst dX8_atom1_76 (by decide) ?_
        refine wp_isub dX8_atom1_77 (by omega) ?_
        refine wp_puti 69 rfl fl_RX8_191 rfl ⟨by omega, by omega⟩ dX8_atom1_78 rfl rfl ?_
        refine wp_aload_n dX8_atom1_81 rfl rfl ?_
        refine wp_get 69 rfl fl_RX8_181 rfl ⟨by omega, by omega⟩ dX8_atom1_82 rfl (v := 1) (D8.2.2.1) ?_
        refine wp_if_ne (tgt := 161) dX8_atom1_85 (by decide) (fun _ => ?_) (fun h => absurd h (by decide))
        refine wp_iload_n dX8_atom1_161 rfl rfl ?_
        refine wp_iret rfl dX8_atom1_162 ?_
        have J11 := (D8).opn (show ((o + 1) - 1) = o by omega)
        have B11 : Fr VMr M0 (mu M8 69 25 ((o + 1) - 1)) := (F8).tr fm25
        generalize (mu M8 69 25 ((o + 1) - 1)) = N11 at J11 B11 ⊢
        have ee : oneP f z (some q) x = pbd (q.2.2 (lxN f z x)) (fun y c v => if lxT f z y = 41 then .inr (lxN f z y, c, v) else .inl (lxA f z y)) := (if_neg (by omega)).trans ((if_neg (by omega)).trans ((if_neg t1).trans (if_pos t6)))
        rw [ee, r8] at k
        exact k _ _ ⟨B11, J11⟩
      · obtain ⟨J8, e8⟩ : RJm M8 t f z y8 (o + 1) e ∧ w8 = v8 e := q8
        obtain ⟨b8, B8, _⟩ : (lxN f z x) + c8.length ≤ y8 ∧ (y8 : Int) ≤ z ∧ _ := b8
        refine wp_istore_n (loc' := [(2, 69), (0, w8)]) dX8_atom1_57 rfl (Nat.le_of_ble_eq_true rfl) rfl ?_
        refine wp_aload_n dX8_atom1_58 rfl rfl ?_
        refine wp_bipush dX8_atom1_59 (by decide) (by decide) ?_
        refine wp_callV0 (d' := d - 1) cv_RX8_222 69 rfl [(0, 41)] [] rfl rfl (Or.inl ⟨_, _, rfl, by decide, rfl, by omega, by omega⟩) (by omega) (Nat.le_of_ble_eq_true rfl) dX8_atom1_61 rfl (Nat.le_of_ble_eq_true rfl) (by omega) (loc1 := [(2, 69), (0, 41)]) rfl ?_
        refine sp_isSg hn J8 41 (by decide) (fun t12 => ?_) (fun t12 => ?_)
        · have g12 := ((J8).2.1.2.2.sgn (s := 41) (by decide)).mpr t12
          refine wp_if_ne (tgt := 71) dX8_atom1_64 (by decide) (fun _ => ?_) (fun h => absurd h (by decide))
          refine wp_aload_n dX8_atom1_71 rfl rfl ?_
          refine wp_dup dX8_atom1_72 (Or.inr rfl) ?_
          refine wp_get 69 rfl fl_RX8_191 rfl ⟨by omega, by omega⟩ dX8_atom1_73 rfl (v := (o + 1)) (J8.2.2.1) ?_
          refine wp_iconst dX8_atom1_76 (by decide) ?_
          refine wp_isub dX8_atom1_77 (by omega) ?_
          refine wp_puti 69 rfl fl_RX8_191 rfl ⟨by omega, by omega⟩ dX8_atom1_78 rfl rfl ?_
          refine wp_aload_n dX8_atom1_81 rfl rfl ?_
          refine wp_get 69 rfl fl_RX8_181 rfl ⟨by omega, by omega⟩ dX8_atom1_82 rfl (v := 0) (J8.2.2.2.1) ?_
          refine wp_if_ne (tgt := 161) dX8_atom1_85 (by decide) (fun h => absurd h (by decide)) (fun _ => ?_)
          refine wp_aload_n dX8_atom1_88 rfl rfl ?_
          refine wp_callV0 (d' := d - 1) cv_RX8_197 69 rfl [] [] rfl rfl (Or.inl ⟨_, _, rfl, by decide, rfl, by omega, by omega⟩) (by omega) (Nat.le_of_ble_eq_true rfl) dX8_atom1_89 rfl (Nat.le_of_ble_eq_true rfl) (by omega) (loc1 := [(2, 69), (9, 0), (9, 0)]) rfl ?_
          have J13 := (J8).opn (show ((o + 1) - 1) = o by omega)
          have B13 : Fr VMr M0 (mu M8 69 25 ((o + 1) - 1)) := (F8).tr fm25
          generalize (mu M8 69 25 ((o + 1) - 1)) = N13 at J13 B13 ⊢
          refine sp_next hn (by omega) hB (J13).1 ((J13).2.1.2.1 ((J13).2.1.2.2.ne4 (by omega))) (lxN_le B8).1 (fun M14 f14 l14 => ?_)
          have J14 := (J13).step f14 l14
          have F14 := (B13).tr (f14.mono VM1.r)
          have X14 := lxN_le (f := f) B8
          have Y14 := lxA_le (f := f) B8
          refine wp_goto (tgt := 161) dX8_atom1_92 (by decide) ?_
          refine wp_iload_n dX8_atom1_161 rfl rfl ?_
          refine wp_iret rfl dX8_atom1_162 ?_
          have ee : oneP f z (some q) x = pbd (q.2.2 (lxN f z x)) (fun y c v => if lxT f z y = 41 then .inr (lxN f z y, c, v) else .inl (lxA f z y)) := (if_neg (by omega)).trans ((if_neg (by omega)).trans ((if_neg t1).trans (if_pos t6)))
          rw [ee, r8] at k
          replace k : ∀ M' w, PoM M0 t f z o e (if lxT f z y8 = 41 then .inr (lxN f z y8, c8, v8) else .inl (lxA f z y8)) M' w → Q (some (0, w)) M' := k
          rw [if_pos t12] at k
          exact k _ _ ⟨F14, J14, e8⟩
        · refine wp_if_ne (tgt := 71) dX8_atom1_64 (by decide) (fun h => absurd h (by decide)) (fun _ => ?_)
          refine wp_aload_n dX8_atom1_67 rfl rfl ?_
          refine wp_callV0 (d' := d - 1) cv_RX8_194 69 rfl [] [] rfl rfl (Or.inl ⟨_, _, rfl, by decide, rfl, by omega, by omega⟩) (by omega) (Nat.le_of_ble_eq_true rfl) dX8_atom1_68 rfl (Nat.le_of_ble_eq_true rfl) (by omega) (loc1 := [(2, 69)]) rfl ?_
          refine sp_failm hn J8 (fun M15 D15 f15 => ?_)
          have F15 := (F8).tr f15
          refine wp_aload_n dX8_atom1_71 rfl rfl ?_
          refine wp_dup dX8_atom1_72 (Or.inr rfl) ?_
          refine wp_get 69 rfl fl_RX8_191 rfl ⟨by omega, by omega⟩ dX8_atom1_73 rfl (v := (o + 1)) (D15.2.1) ?_
          refine wp_iconst dX8_atom1_76 (by decide) ?_
          refine wp_isub dX8_atom1_77 (by omega) ?_
          refine wp_puti 69 rfl fl_RX8_191 rfl ⟨by omega, by omega⟩ dX8_atom1_78 rfl rfl ?_
          refine wp_aload_n dX8_atom1_81 rfl rfl ?_
          refine wp_get 69 rfl fl_RX8_181 rfl ⟨by omega, by omega⟩ dX8_atom1_82 rfl (v := 1) (D15.2.2.1) ?_
          refine wp_if_ne (tgt := 161) dX8_atom1_85 (by decide) (fun _ => ?_) (fun h => absurd h (by decide))
          refine wp_iload_n dX8_atom1_161 rfl rfl ?_
          refine wp_iret rfl dX8_atom1_162 ?_
          have J16 := (D15).opn (show ((o + 1) - 1) = o by omega)
          have B16 : Fr VMr M0 (mu M15 69 25 ((o + 1) - 1)) := (F15).tr fm25
          generalize (mu M15 69 25 ((o + 1) - 1)) = N16 at J16 B16 ⊢
          have ee : oneP f z (some q) x = pbd (q.2.2 (lxN f z x)) (fun y c v => if lxT f z y = 41 then .inr (lxN f z y, c, v) else .inl (lxA f z y)) := (if_neg (by omega)).trans ((if_neg (by omega)).trans ((if_neg t1).trans (if_pos t6)))
          rw [ee, r8] at k
          replace k : ∀ M' w, PoM M0 t f z o e (if lxT f z y8 = 41 then .inr (lxN f z y8, c8, v8) else .inl (lxA f z y8)) M' w → Q (some (0, w)) M' := k
          rw [if_neg t12] at k
          exact k _ _ ⟨B16, J16⟩
    · refine wp_if_eq (tgt := 95) dX8_atom1_43 (by decide) (fun _ => ?_) (fun h => absurd h (by decide))
      refine wp_aload_n dX8_atom1_95 rfl rfl ?_
      refine wp_get 69 rfl fl_RX8_181 rfl ⟨by omega, by omega⟩ dX8_atom1_96 rfl (v := 0) (hJ.2.2.2.1) ?_
      refine wp_if_ne (tgt := 123) dX8_atom1_99 (by decide) (fun h => absurd h (by decide)) (fun _ => ?_)
      refine wp_aload_n dX8_atom1_102 rfl rfl ?_
      refine wp_get 69 rfl fl_RX8_164 rfl ⟨by omega, by omega⟩ dX8_atom1_103 rfl (v := (M0 69 22)) (rfl) ?_
      refine wp_iconst dX8_atom1_106 (by decide) ?_
      refine wp_icmp_ne (tgt := 123) dX8_atom1_107 (by decide) (fun h107 => ?_) (fun h107 => ?_)
      · refine wp_aload_n dX8_atom1_123 rfl rfl ?_
        refine wp_get 69 rfl fl_RX8_181 rfl ⟨by omega, by omega⟩ dX8_atom1_124 rfl (v := 0) (hJ.2.2.2.1) ?_
        refine wp_if_ne (tgt := 157) dX8_atom1_127 (by decide) (fun h => absurd h (by decide)) (fun _ => ?_)
        refine wp_aload_n dX8_atom1_130 rfl rfl ?_
        refine wp_get 69 rfl fl_RX8_164 rfl ⟨by omega, by omega⟩ dX8_atom1_131 rfl (v := (M0 69 22)) (rfl) ?_
        refine wp_iconst dX8_atom1_134 (by decide) ?_
        refine wp_icmp_ne (tgt := 157) dX8_atom1_135 (by decide) (fun h135 => ?_) (fun h135 => ?_)
        · refine wp_aload_n dX8_atom1_157 rfl rfl ?_
          refine wp_callV0 (d' := d - 1) cv_RX8_194 69 rfl [] [] rfl rfl (Or.inl ⟨_, _, rfl, by decide, rfl, by omega, by omega⟩) (by omega) (Nat.le_of_ble_eq_true rfl) dX8_atom1_158 rfl (Nat.le_of_ble_eq_true rfl) (by omega) (loc1 := [(2, 69)]) rfl ?_
          refine sp_failm hn hJ (fun M17 D17 f17 => ?_)
          have F17 := ((Fr.rf : Fr VMr M0 M0)).tr f17
          refine wp_iload_n dX8_atom1_161 rfl rfl ?_
          refine wp_iret rfl dX8_atom1_162 ?_
          have two := hJ.2.1.2.2.two
          have t2 : lxT f z x ≠ 2 := fun h => h107 (two.1.mpr h)
          have hw := hJ.2.1.2.2.word h135
          have ee : oneP f z (some q) x = .inl (lxA f z x) := (if_neg t2).trans ((if_neg (by omega)).trans ((if_neg t1).trans (if_neg t6)))
          rw [ee] at k
          exact k _ _ ⟨F17, D17⟩
        · refine wp_aload_n dX8_atom1_138 rfl rfl ?_
          refine wp_callV0 (d' := d - 1) cv_RX8_229 69 rfl [] [] rfl rfl (Or.inl ⟨_, _, rfl, by decide, rfl, by omega, by omega⟩) (by omega) (Nat.le_of_ble_eq_true rfl) dX8_atom1_139 rfl (Nat.le_of_ble_eq_true rfl) (by omega) (loc1 := [(2, 69)]) rfl ?_
          refine sp_name hn (by omega) hJ hx (fun hnm => ?_) (fun hnm M18 D18 f18 => ?_)
          · refine wp_istore_n (loc' := [(2, 69), (0, (e (-1 - (lxT f z x - 262))))]) dX8_atom1_142 rfl (Nat.le_of_ble_eq_true rfl) rfl ?_
            refine wp_aload_n dX8_atom1_143 rfl rfl ?_
            refine wp_get 69 rfl fl_RX8_181 rfl ⟨by omega, by omega⟩ dX8_atom1_144 rfl (v := 0) (hJ.2.2.2.1) ?_
            refine wp_if_ne (tgt := 161) dX8_atom1_147 (by decide) (fun h => absurd h (by decide)) (fun _ => ?_)
            refine wp_aload_n dX8_atom1_150 rfl rfl ?_
            refine wp_callV0 (d' := d - 1) cv_RX8_197 69 rfl [] [] rfl rfl (Or.inl ⟨_, _, rfl, by decide, rfl, by omega, by omega⟩) (by omega) (Nat.le_of_ble_eq_true rfl) dX8_atom1_151 rfl (Nat.le_of_ble_eq_true rfl) (by omega) (loc1 := [(2, 69), (9, 0), (9, 0)]) rfl ?_
            refine sp_next hn (by omega) hB (hJ).1 ((hJ).2.1.2.1 ((hJ).2.1.2.2.ne4 (by omega))) (lxN_le hx).1 (fun M19 f19 l19 => ?_)
            have J19 := (hJ).step f19 l19
            have F19 := ((Fr.rf : Fr VMr M0 M0)).tr (f19.mono VM1.r)
            have X19 := lxN_le (f := f) hx
            have Y19 := lxA_le (f := f) hx
            refine wp_goto (tgt := 161) dX8_atom1_154 (by decide) ?_
            refine wp_iload_n dX8_atom1_161 rfl rfl ?_
            refine wp_iret rfl dX8_atom1_162 ?_
            have two := hJ.2.1.2.2.two
            have t2 : lxT f z x ≠ 2 := fun h => h107 (two.1.mpr h)
            have ee : oneP f z (some q) x = .inr (lxN f z x, [-1 - (lxT f z x - 262)], fun e => e (-1 - (lxT f z x - 262))) := (if_neg t2).trans (if_pos hnm)
            rw [ee] at k
            exact k _ _ ⟨F19, J19, rfl⟩
          · have F18 := ((Fr.rf : Fr VMr M0 M0)).tr f18
            refine wp_istore_n (loc' := [(2, 69), (0, 0)]) dX8_atom1_142 rfl (Nat.le_of_ble_eq_true rfl) rfl ?_
            refine wp_aload_n dX8_atom1_143 rfl rfl ?_
            refine wp_get 69 rfl fl_RX8_181 rfl ⟨by omega, by omega⟩ dX8_atom1_144 rfl (v := 1) (D18.2.2.1) ?_
            refine wp_if_ne (tgt := 161) dX8_atom1_147 (by decide) (fun _ => ?_) (fun h => absurd h (by decide))
            refine wp_iload_n dX8_atom1_161 rfl rfl ?_
            refine wp_iret rfl dX8_atom1_162 ?_
            have two := hJ.2.1.2.2.two
            have t2 : lxT f z x ≠ 2 := fun h => h107 (two.1.mpr h)
            have ee : oneP f z (some q) x = .inl (lxA f z x) := (if_neg t2).trans ((if_neg hnm).trans ((if_neg t1).trans (if_neg t6)))
            rw [ee] at k
            exact k _ _ ⟨F18, D18⟩
      · refine wp_aload_n dX8_atom1_110 rfl rfl ?_
        refine wp_get 69 rfl fl_RX8_175 rfl ⟨by omega, by omega⟩ dX8_atom1_111 rfl (v := (M0 69 24)) (rfl) ?_
        refine wp_l2i dX8_atom1_114 ?_
        refine wp_istore_n (loc' := [(2, 69), (0, (wrap (M0 69 24)))]) dX8_atom1_115 rfl (Nat.le_of_ble_eq_true rfl) rfl ?_
        refine wp_aload_n dX8_atom1_116 rfl rfl ?_
        refine wp_callV0 (d' := d - 1) cv_RX8_197 69 rfl [] [] rfl rfl (Or.inl ⟨_, _, rfl, by decide, rfl, by omega, by omega⟩) (by omega) (Nat.le_of_ble_eq_true rfl) dX8_atom1_117 rfl (Nat.le_of_ble_eq_true rfl) (by omega) (loc1 := [(2, 69), (9, 0), (9, 0)]) rfl ?_
        have t2 := hJ.2.1.2.2.two.1.mp h107
        refine sp_next hn (by omega) hB (hJ).1 ((hJ).2.1.2.1 ((hJ).2.1.2.2.ne4 (by omega))) (lxN_le hx).1 (fun M20 f20 l20 => ?_)
        have J20 := (hJ).step f20 l20
        have F20 := ((Fr.rf : Fr VMr M0 M0)).tr (f20.mono VM1.r)
        have X20 := lxN_le (f := f) hx
        have Y20 := lxA_le (f := f) hx
        refine wp_goto (tgt := 161) dX8_atom1_120 (by decide) ?_
        refine wp_iload_n dX8_atom1_161 rfl rfl ?_
        refine wp_iret rfl dX8_atom1_162 ?_
        have two := hJ.2.1.2.2.two
        have t2 := two.1.mp h107
        have ee : oneP f z (some q) x = .inr (lxN f z x, [lxV f z x], fun _ => lxV f z x) := if_pos t2
        rw [ee] at k
        have hv := lxV_r hx t2
        exact k _ _ ⟨F20, J20, by rw [two.2 h107, wrap_id (by omega)]⟩
set_option maxRecDepth 20000 in
set_option maxHeartbeats 4000000 in
theorem cm_not1 {l : Launch} {g : Gw} {n : Nat} (hn : 90 ≤ n) {t : Nat} {f : Nat → Int} {z : Int} {e : Int → Int} {B : Nat} (hB8 : 12 ≤ B) (hB : BT f z) {o : Int} (ho : 0 ≤ o ∧ o < 5) {q : P3} (hq : OK3 z q) (hs2 : CMm l g n t f z e m_X8_not2 [(9, 0), (9, 0), (9, 0)] B (o + 1) q.2.1) {P : Nat → PR} (hqc : ∀ x : Nat, (x : Int) ≤ z → PQ z x (P x)) (hc : CMm l g n t f z e m_X8_added1 [(9, 0), (9, 0), (9, 0)] B o P) : CMm l g n t f z e m_X8_not1 [(9, 0), (9, 0), (9, 0)] (B + 1) o (notP f z (some q) (gBn f z opC 1 P)) := by
  intro d M0 Q x hd hJ hx k
  have hz1 := hJ.1.2.2.2.2.2.1
  refine wp_aload_n dX8_not1_0 rfl rfl ?_
  refine wp_bipush dX8_not1_1 (by decide) (by decide) ?_
  refine wp_bipush dX8_not1_3 (by decide) (by decide) ?_
  refine wp_bipush dX8_not1_5 (by decide) (by decide) ?_
  refine wp_iconst dX8_not1_7 (by decide) ?_
  refine wp_iconst dX8_not1_8 (by decide) ?_
  refine wp_iconst dX8_not1_9 (by decide) ?_
  refine wp_iconst dX8_not1_10 (by decide) ?_
  refine wp_iconst dX8_not1_11 (by decide) ?_
  refine wp_callV0 (d' := d - 1) cv_RX8_200 69 rfl [(0, 110), (0, 111), (0, 116), (0, 0), (0, 0), (0, 0), (0, 0), (0, 0)] [] rfl rfl (Or.inl ⟨_, _, rfl, by decide, rfl, by omega, by omega⟩) (by omega) (Nat.le_of_ble_eq_true rfl) dX8_not1_12 rfl (Nat.le_of_ble_eq_true rfl) (by omega) (loc1 := [(2, 69), (0, 110), (0, 111), (0, 116), (0, 0), (0, 0), (0, 0), (0, 0), (0, 0)]) rfl ?_
  refine sp_isWm_5 hn (by omega) hJ hx (fun t1 => ?_) (fun t1 => ?_)
  · refine wp_if_eq (tgt := 52) dX8_not1_15 (by decide) (fun h => absurd h (by decide)) (fun _ => ?_)
    refine wp_aload_n dX8_not1_18 rfl rfl ?_
    refine wp_callV0 (d' := d - 1) cv_RX8_225 69 rfl [] [] rfl rfl (Or.inl ⟨_, _, rfl, by decide, rfl, by omega, by omega⟩) (by omega) (Nat.le_of_ble_eq_true rfl) dX8_not1_19 rfl (Nat.le_of_ble_eq_true rfl) (by omega) (loc1 := [(2, 69)]) rfl ?_
    refine sp_opensm hn (by omega) hB hJ hx ho (by omega) (fun M2 J2 f2 => ?_)
    have F2 := ((Fr.rf : Fr VMr M0 M0)).tr f2
    have X2 := lxN_le (f := f) hx
    have Y2 := lxA_le (f := f) hx
    refine wp_if_ne (tgt := 27) dX8_not1_22 (by decide) (fun _ => ?_) (fun h => absurd h (by decide))
    refine wp_aload_n dX8_not1_27 rfl rfl ?_
    refine wp_callV0 (d' := d - 1) cv_RX8_300 69 rfl [] [] rfl rfl (Or.inl ⟨_, _, rfl, by decide, rfl, by omega, by omega⟩) (by omega) (Nat.le_of_ble_eq_true rfl) dX8_not1_28 rfl (Nat.le_of_ble_eq_true rfl) (by omega) (loc1 := [(2, 69), (9, 0), (9, 0), (9, 0)]) rfl ?_
    refine hs2 _ _ _ _ (by omega) J2 X2.1 (fun M3 w3 q3 => ?_)
    obtain ⟨f3, q3⟩ := q3
    have F3 := (F2).tr f3
    have b3 := hq.2.1 _ X2.1
    generalize r3 : q.2.1 (lxN f z x) = u3 at q3 b3
    rcases u3 with p3 | ⟨y3, c3, v3⟩
    · have D3 : DJm M3 t f z p3 (o + 1) e := q3
      refine wp_istore_n (loc' := [(2, 69), (0, w3), (9, 0), (9, 0)]) dX8_not1_31 rfl (Nat.le_of_ble_eq_true rfl) rfl ?_
      refine wp_aload_n dX8_not1_32 rfl rfl ?_
      refine wp_dup dX8_not1_33 (Or.inr rfl) ?_
      refine wp_get 69 rfl fl_RX8_191 rfl ⟨by omega, by omega⟩ dX8_not1_34 rfl (v := (o + 1)) (D3.2.1) ?_
      refine wp_iconst dX8_not1_37 (by decide) ?_
      refine wp_isub dX8_not1_38 (by omega) ?_
      refine wp_puti 69 rfl fl_RX8_191 rfl ⟨by omega, by omega⟩ dX8_not1_39 rfl rfl ?_
      refine wp_iload_n dX8_not1_42 rfl rfl ?_
      refine wp_if_ne (tgt := 50) dX8_not1_43 (by decide) (fun h43 => ?_) (fun h43 => ?_)
      · refine wp_iconst dX8_not1_50 (by decide) ?_
        refine wp_iret rfl dX8_not1_51 ?_
        have J4 := (D3).opn (show ((o + 1) - 1) = o by omega)
        have B4 : Fr VMr M0 (mu M3 69 25 ((o + 1) - 1)) := (F3).tr fm25
        generalize (mu M3 69 25 ((o + 1) - 1)) = N4 at J4 B4 ⊢
        have ee : notP f z (some q) (gBn f z opC 1 P) x = pbd (q.2.1 (lxN f z x)) (fun y c v => .inr (y, c ++ [-9], fun e => if v e = 0 then 1 else 0)) := if_pos t1
        rw [ee, r3] at k
        exact k _ _ ⟨B4, J4⟩
      · refine wp_iconst dX8_not1_46 (by decide) ?_
        refine wp_goto (tgt := 51) dX8_not1_47 (by decide) ?_
        refine wp_iret rfl dX8_not1_51 ?_
        have J5 := (D3).opn (show ((o + 1) - 1) = o by omega)
        have B5 : Fr VMr M0 (mu M3 69 25 ((o + 1) - 1)) := (F3).tr fm25
        generalize (mu M3 69 25 ((o + 1) - 1)) = N5 at J5 B5 ⊢
        have ee : notP f z (some q) (gBn f z opC 1 P) x = pbd (q.2.1 (lxN f z x)) (fun y c v => .inr (y, c ++ [-9], fun e => if v e = 0 then 1 else 0)) := if_pos t1
        rw [ee, r3] at k
        exact k _ _ ⟨B5, J5⟩
    · obtain ⟨J3, e3⟩ : RJm M3 t f z y3 (o + 1) e ∧ w3 = v3 e := q3
      obtain ⟨b3, B3, _⟩ : (lxN f z x) + c3.length ≤ y3 ∧ (y3 : Int) ≤ z ∧ _ := b3
      refine wp_istore_n (loc' := [(2, 69), (0, w3), (9, 0), (9, 0)]) dX8_not1_31 rfl (Nat.le_of_ble_eq_true rfl) rfl ?_
      refine wp_aload_n dX8_not1_32 rfl rfl ?_
      refine wp_dup dX8_not1_33 (Or.inr rfl) ?_
      refine wp_get 69 rfl fl_RX8_191 rfl ⟨by omega, by omega⟩ dX8_not1_34 rfl (v := (o + 1)) (J3.2.2.1) ?_
      refine wp_iconst dX8_not1_37 (by decide) ?_
      refine wp_isub dX8_not1_38 (by omega) ?_
      refine wp_puti 69 rfl fl_RX8_191 rfl ⟨by omega, by omega⟩ dX8_not1_39 rfl rfl ?_
      refine wp_iload_n dX8_not1_42 rfl rfl ?_
      refine wp_if_ne (tgt := 50) dX8_not1_43 (by decide) (fun h43 => ?_) (fun h43 => ?_)
      · refine wp_iconst dX8_not1_50 (by decide) ?_
        refine wp_iret rfl dX8_not1_51 ?_
        have J6 := (J3).opn (show ((o + 1) - 1) = o by omega)
        have B6 : Fr VMr M0 (mu M3 69 25 ((o + 1) - 1)) := (F3).tr fm25
        generalize (mu M3 69 25 ((o + 1) - 1)) = N6 at J6 B6 ⊢
        have ee : notP f z (some q) (gBn f z opC 1 P) x = pbd (q.2.1 (lxN f z x)) (fun y c v => .inr (y, c ++ [-9], fun e => if v e = 0 then 1 else 0)) := if_pos t1
        rw [ee, r3] at k
        refine k _ _ ⟨B6, J6, ?_⟩
        show _ = (if v3 e = 0 then (1 : Int) else 0)
        rw [← e3]
        first | exact (if_pos (by omega)).symm | exact (if_neg (by omega)).symm
      · refine wp_iconst dX8_not1_46 (by decide) ?_
        refine wp_goto (tgt := 51) dX8_not1_47 (by decide) ?_
        refine wp_iret rfl dX8_not1_51 ?_
        have J7 := (J3).opn (show ((o + 1) - 1) = o by omega)
        have B7 : Fr VMr M0 (mu M3 69 25 ((o + 1) - 1)) := (F3).tr fm25
        generalize (mu M3 69 25 ((o + 1) - 1)) = N7 at J7 B7 ⊢
        have ee : notP f z (some q) (gBn f z opC 1 P) x = pbd (q.2.1 (lxN f z x)) (fun y c v => .inr (y, c ++ [-9], fun e => if v e = 0 then 1 else 0)) := if_pos t1
        rw [ee, r3] at k
        refine k _ _ ⟨B7, J7, ?_⟩
        show _ = (if v3 e = 0 then (1 : Int) else 0)
        rw [← e3]
        first | exact (if_pos (by omega)).symm | exact (if_neg (by omega)).symm
  · refine wp_if_eq (tgt := 52) dX8_not1_15 (by decide) (fun _ => ?_) (fun h => absurd h (by decide))
    refine wp_aload_n dX8_not1_52 rfl rfl ?_
    refine wp_callV0 (d' := d - 1) cv_RX8_315 69 rfl [] [] rfl rfl (Or.inl ⟨_, _, rfl, by decide, rfl, by omega, by omega⟩) (by omega) (Nat.le_of_ble_eq_true rfl) dX8_not1_53 rfl (Nat.le_of_ble_eq_true rfl) (by omega) (loc1 := [(2, 69), (9, 0), (9, 0), (9, 0)]) rfl ?_
    refine hc _ _ _ _ (by omega) hJ hx (fun M8 w8 q8 => ?_)
    obtain ⟨f8, q8⟩ := q8
    have F8 := ((Fr.rf : Fr VMr M0 M0)).tr f8
    have b8 := hqc _ hx
    generalize r8 : P x = u8 at q8 b8
    rcases u8 with p8 | ⟨y8, c8, v8⟩
    · have D8 : DJm M8 t f z p8 o e := q8
      refine wp_istore_n (loc' := [(2, 69), (0, w8), (9, 0), (9, 0)]) dX8_not1_56 rfl (Nat.le_of_ble_eq_true rfl) rfl ?_
      refine wp_aload_n dX8_not1_57 rfl rfl ?_
      refine wp_bipush dX8_not1_58 (by decide) (by decide) ?_
      refine wp_callV0 (d' := d - 1) cv_RX8_222 69 rfl [(0, 60)] [] rfl rfl (Or.inl ⟨_, _, rfl, by decide, rfl, by omega, by omega⟩) (by omega) (Nat.le_of_ble_eq_true rfl) dX8_not1_60 rfl (Nat.le_of_ble_eq_true rfl) (by omega) (loc1 := [(2, 69), (0, 60)]) rfl ?_
      refine sp_isSd hn D8 ?_
      refine wp_if_ne (tgt := 77) dX8_not1_63 (by decide) (fun h => absurd h (by decide)) (fun _ => ?_)
      refine wp_aload_n dX8_not1_66 rfl rfl ?_
      refine wp_bipush dX8_not1_67 (by decide) (by decide) ?_
      refine wp_callV0 (d' := d - 1) cv_RX8_222 69 rfl [(0, 61)] [] rfl rfl (Or.inl ⟨_, _, rfl, by decide, rfl, by omega, by omega⟩) (by omega) (Nat.le_of_ble_eq_true rfl) dX8_not1_69 rfl (Nat.le_of_ble_eq_true rfl) (by omega) (loc1 := [(2, 69), (0, 61)]) rfl ?_
      refine sp_isSd hn D8 ?_
      refine wp_if_ne (tgt := 77) dX8_not1_72 (by decide) (fun h => absurd h (by decide)) (fun _ => ?_)
      refine wp_iload_n dX8_not1_75 rfl rfl ?_
      refine wp_iret rfl dX8_not1_76 ?_
      have ee : notP f z (some q) (gBn f z opC 1 P) x = pbd (P x) (fun y c v => gL f z opC P 1 y c v) := if_neg t1
      rw [ee, r8] at k
      exact k _ _ ⟨F8, D8⟩
    · obtain ⟨J8, e8⟩ : RJm M8 t f z y8 o e ∧ w8 = v8 e := q8
      obtain ⟨b8, B8, _⟩ : x + c8.length ≤ y8 ∧ (y8 : Int) ≤ z ∧ _ := b8
      refine wp_istore_n (loc' := [(2, 69), (0, w8), (9, 0), (9, 0)]) dX8_not1_56 rfl (Nat.le_of_ble_eq_true rfl) rfl ?_
      refine wp_aload_n dX8_not1_57 rfl rfl ?_
      refine wp_bipush dX8_not1_58 (by decide) (by decide) ?_
      refine wp_callV0 (d' := d - 1) cv_RX8_222 69 rfl [(0, 60)] [] rfl rfl (Or.inl ⟨_, _, rfl, by decide, rfl, by omega, by omega⟩) (by omega) (Nat.le_of_ble_eq_true rfl) dX8_not1_60 rfl (Nat.le_of_ble_eq_true rfl) (by omega) (loc1 := [(2, 69), (0, 60)]) rfl ?_
      refine sp_isSg hn J8 60 (by decide) (fun t11 => ?_) (fun t11 => ?_)
      · have g11 := ((J8).2.1.2.2.sgn (s := 60) (by decide)).mpr t11
        refine wp_if_ne (tgt := 77) dX8_not1_63 (by decide) (fun _ => ?_) (fun h => absurd h (by decide))
        refine wp_aload_n dX8_not1_77 rfl rfl ?_
        refine wp_get 69 rfl fl_RX8_175 rfl ⟨by omega, by omega⟩ dX8_not1_78 rfl (v := 60) (g11.2) ?_
        refine wp_ldc2 (x := 60) dX8_not1_81 kl_RX8_244 (by decide) (wr_l (by omega)) ?_
        refine wp_lcmp dX8_not1_84 ?_
        change Wp _ _ _ _ _ _ _ _ ((0, 0) :: _) _ _ _
        refine wp_if_ne (tgt := 92) dX8_not1_85 (by decide) (fun h => absurd h (by decide)) (fun _ => ?_)
        refine wp_iconst dX8_not1_88 (by decide) ?_
        refine wp_goto (tgt := 93) dX8_not1_89 (by decide) ?_
        refine wp_istore_n (loc' := [(2, 69), (0, w8), (0, 1), (9, 0)]) dX8_not1_93 rfl (Nat.le_of_ble_eq_true rfl) rfl ?_
        refine wp_aload_n dX8_not1_94 rfl rfl ?_
        refine wp_callV0 (d' := d - 1) cv_RX8_197 69 rfl [] [] rfl rfl (Or.inl ⟨_, _, rfl, by decide, rfl, by omega, by omega⟩) (by omega) (Nat.le_of_ble_eq_true rfl) dX8_not1_95 rfl (Nat.le_of_ble_eq_true rfl) (by omega) (loc1 := [(2, 69), (9, 0), (9, 0)]) rfl ?_
        refine sp_next hn (by omega) hB (J8).1 ((J8).2.1.2.1 ((J8).2.1.2.2.ne4 (by omega))) (lxN_le B8).1 (fun M12 f12 l12 => ?_)
        have J12 := (J8).step f12 l12
        have F12 := (F8).tr (f12.mono VM1.r)
        have X12 := lxN_le (f := f) B8
        have Y12 := lxA_le (f := f) B8
        refine wp_aload_n dX8_not1_98 rfl rfl ?_
        refine wp_callV0 (d' := d - 1) cv_RX8_315 69 rfl [] [] rfl rfl (Or.inl ⟨_, _, rfl, by decide, rfl, by omega, by omega⟩) (by omega) (Nat.le_of_ble_eq_true rfl) dX8_not1_99 rfl (Nat.le_of_ble_eq_true rfl) (by omega) (loc1 := [(2, 69), (9, 0), (9, 0), (9, 0)]) rfl ?_
        refine hc _ _ _ _ (by omega) J12 X12.1 (fun M13 w13 q13 => ?_)
        obtain ⟨f13, q13⟩ := q13
        have F13 := (F12).tr f13
        have b13 := hqc _ X12.1
        generalize r13 : P (lxN f z y8) = u13 at q13 b13
        rcases u13 with p13 | ⟨y13, c13, v13⟩
        · have D13 : DJm M13 t f z p13 o e := q13
          refine wp_istore_n (loc' := [(2, 69), (0, w8), (0, 1), (0, w13)]) dX8_not1_102 rfl (Nat.le_of_ble_eq_true rfl) rfl ?_
          refine wp_iload_n dX8_not1_103 rfl rfl ?_
          refine wp_if_eq (tgt := 115) dX8_not1_104 (by decide) (fun h => absurd h (by decide)) (fun _ => ?_)
          refine wp_iload_n dX8_not1_107 rfl rfl ?_
          refine wp_iload_n dX8_not1_108 rfl rfl ?_
          refine wp_icmp_ge (tgt := 124) dX8_not1_109 (by decide) (fun h109 => ?_) (fun h109 => ?_)
          · refine wp_iconst dX8_not1_124 (by decide) ?_
            refine wp_iret rfl dX8_not1_125 ?_
            have ee : notP f z (some q) (gBn f z opC 1 P) x = pbd (P x) (fun y c v => gL f z opC P 1 y c v) := if_neg t1
            rw [ee, r8] at k
            have eo : opC (lxT f z y8) = -10 := if_pos t11
            have e2 : gL f z opC P 1 y8 c8 v8 = pbd (P (lxN f z y8)) (fun y c' v' => gL f z opC P 0 y (c8 ++ c' ++ [opC (lxT f z y8)]) (fun e => jn (opC (lxT f z y8)) (v8 e) (v' e))) := if_neg (by rw [eo]; decide)
            replace k : ∀ M' w, PoM M0 t f z o e (gL f z opC P 1 y8 c8 v8) M' w → Q (some (0, w)) M' := k
            rw [e2, r13] at k
            exact k _ _ ⟨F13, D13⟩
          · refine wp_goto (tgt := 120) dX8_not1_112 (by decide) ?_
            refine wp_iconst dX8_not1_120 (by decide) ?_
            refine wp_goto (tgt := 125) dX8_not1_121 (by decide) ?_
            refine wp_iret rfl dX8_not1_125 ?_
            have ee : notP f z (some q) (gBn f z opC 1 P) x = pbd (P x) (fun y c v => gL f z opC P 1 y c v) := if_neg t1
            rw [ee, r8] at k
            have eo : opC (lxT f z y8) = -10 := if_pos t11
            have e2 : gL f z opC P 1 y8 c8 v8 = pbd (P (lxN f z y8)) (fun y c' v' => gL f z opC P 0 y (c8 ++ c' ++ [opC (lxT f z y8)]) (fun e => jn (opC (lxT f z y8)) (v8 e) (v' e))) := if_neg (by rw [eo]; decide)
            replace k : ∀ M' w, PoM M0 t f z o e (gL f z opC P 1 y8 c8 v8) M' w → Q (some (0, w)) M' := k
            rw [e2, r13] at k
            exact k _ _ ⟨F13, D13⟩
        · obtain ⟨J13, e13⟩ : RJm M13 t f z y13 o e ∧ w13 = v13 e := q13
          obtain ⟨b13, B13, _⟩ : (lxN f z y8) + c13.length ≤ y13 ∧ (y13 : Int) ≤ z ∧ _ := b13
          refine wp_istore_n (loc' := [(2, 69), (0, w8), (0, 1), (0, w13)]) dX8_not1_102 rfl (Nat.le_of_ble_eq_true rfl) rfl ?_
          refine wp_iload_n dX8_not1_103 rfl rfl ?_
          refine wp_if_eq (tgt := 115) dX8_not1_104 (by decide) (fun h => absurd h (by decide)) (fun _ => ?_)
          refine wp_iload_n dX8_not1_107 rfl rfl ?_
          refine wp_iload_n dX8_not1_108 rfl rfl ?_
          refine wp_icmp_ge (tgt := 124) dX8_not1_109 (by decide) (fun h109 => ?_) (fun h109 => ?_)
          · refine wp_iconst dX8_not1_124 (by decide) ?_
            refine wp_iret rfl dX8_not1_125 ?_
            have ee : notP f z (some q) (gBn f z opC 1 P) x = pbd (P x) (fun y c v => gL f z opC P 1 y c v) := if_neg t1
            rw [ee, r8] at k
            have eo : opC (lxT f z y8) = -10 := if_pos t11
            have e2 : gL f z opC P 1 y8 c8 v8 = pbd (P (lxN f z y8)) (fun y c' v' => gL f z opC P 0 y (c8 ++ c' ++ [opC (lxT f z y8)]) (fun e => jn (opC (lxT f z y8)) (v8 e) (v' e))) := if_neg (by rw [eo]; decide)
            replace k : ∀ M' w, PoM M0 t f z o e (gL f z opC P 1 y8 c8 v8) M' w → Q (some (0, w)) M' := k
            rw [e2, r13] at k
            refine k _ _ ⟨F13, J13, ?_⟩
            show _ = jn (opC (lxT f z y8)) (v8 e) (v13 e)
            rw [eo, ← e8, ← e13, jn10]
            first | exact (if_pos (by omega)).symm | exact (if_neg (by omega)).symm
          · refine wp_goto (tgt := 120) dX8_not1_112 (by decide) ?_
            refine wp_iconst dX8_not1_120 (by decide) ?_
            refine wp_goto (tgt := 125) dX8_not1_121 (by decide) ?_
            refine wp_iret rfl dX8_not1_125 ?_
            have ee : notP f z (some q) (gBn f z opC 1 P) x = pbd (P x) (fun y c v => gL f z opC P 1 y c v) := if_neg t1
            rw [ee, r8] at k
            have eo : opC (lxT f z y8) = -10 := if_pos t11
            have e2 : gL f z opC P 1 y8 c8 v8 = pbd (P (lxN f z y8)) (fun y c' v' => gL f z opC P 0 y (c8 ++ c' ++ [opC (lxT f z y8)]) (fun e => jn (opC (lxT f z y8)) (v8 e) (v' e))) := if_neg (by rw [eo]; decide)
            replace k : ∀ M' w, PoM M0 t f z o e (gL f z opC P 1 y8 c8 v8) M' w → Q (some (0, w)) M' := k
            rw [e2, r13] at k
            refine k _ _ ⟨F13, J13, ?_⟩
            show _ = jn (opC (lxT f z y8)) (v8 e) (v13 e)
            rw [eo, ← e8, ← e13, jn10]
            first | exact (if_pos (by omega)).symm | exact (if_neg (by omega)).symm
      · refine wp_if_ne (tgt := 77) dX8_not1_63 (by decide) (fun h => absurd h (by decide)) (fun _ => ?_)
        refine wp_aload_n dX8_not1_66 rfl rfl ?_
        refine wp_bipush dX8_not1_67 (by decide) (by decide) ?_
        refine wp_callV0 (d' := d - 1) cv_RX8_222 69 rfl [(0, 61)] [] rfl rfl (Or.inl ⟨_, _, rfl, by decide, rfl, by omega, by omega⟩) (by omega) (Nat.le_of_ble_eq_true rfl) dX8_not1_69 rfl (Nat.le_of_ble_eq_true rfl) (by omega) (loc1 := [(2, 69), (0, 61)]) rfl ?_
        refine sp_isSg hn J8 61 (by decide) (fun t14 => ?_) (fun t14 => ?_)
        · have g14 := ((J8).2.1.2.2.sgn (s := 61) (by decide)).mpr t14
          refine wp_if_ne (tgt := 77) dX8_not1_72 (by decide) (fun _ => ?_) (fun h => absurd h (by decide))
          refine wp_aload_n dX8_not1_77 rfl rfl ?_
          refine wp_get 69 rfl fl_RX8_175 rfl ⟨by omega, by omega⟩ dX8_not1_78 rfl (v := 61) (g14.2) ?_
          refine wp_ldc2 (x := 60) dX8_not1_81 kl_RX8_244 (by decide) (wr_l (by omega)) ?_
          refine wp_lcmp dX8_not1_84 ?_
          change Wp _ _ _ _ _ _ _ _ ((0, 1) :: _) _ _ _
          refine wp_if_ne (tgt := 92) dX8_not1_85 (by decide) (fun _ => ?_) (fun h => absurd h (by decide))
          refine wp_iconst dX8_not1_92 (by decide) ?_
          refine wp_istore_n (loc' := [(2, 69), (0, w8), (0, 0), (9, 0)]) dX8_not1_93 rfl (Nat.le_of_ble_eq_true rfl) rfl ?_
          refine wp_aload_n dX8_not1_94 rfl rfl ?_
          refine wp_callV0 (d' := d - 1) cv_RX8_197 69 rfl [] [] rfl rfl (Or.inl ⟨_, _, rfl, by decide, rfl, by omega, by omega⟩) (by omega) (Nat.le_of_ble_eq_true rfl) dX8_not1_95 rfl (Nat.le_of_ble_eq_true rfl) (by omega) (loc1 := [(2, 69), (9, 0), (9, 0)]) rfl ?_
          refine sp_next hn (by omega) hB (J8).1 ((J8).2.1.2.1 ((J8).2.1.2.2.ne4 (by omega))) (lxN_le B8).1 (fun M15 f15 l15 => ?_)
          have J15 := (J8).step f15 l15
          have F15 := (F8).tr (f15.mono VM1.r)
          have X15 := lxN_le (f := f) B8
          have Y15 := lxA_le (f := f) B8
          refine wp_aload_n dX8_not1_98 rfl rfl ?_
          refine wp_callV0 (d' := d - 1) cv_RX8_315 69 rfl [] [] rfl rfl (Or.inl ⟨_, _, rfl, by decide, rfl, by omega, by omega⟩) (by omega) (Nat.le_of_ble_eq_true rfl) dX8_not1_99 rfl (Nat.le_of_ble_eq_true rfl) (by omega) (loc1 := [(2, 69), (9, 0), (9, 0), (9, 0)]) rfl ?_
          refine hc _ _ _ _ (by omega) J15 X15.1 (fun M16 w16 q16 => ?_)
          obtain ⟨f16, q16⟩ := q16
          have F16 := (F15).tr f16
          have b16 := hqc _ X15.1
          generalize r16 : P (lxN f z y8) = u16 at q16 b16
          rcases u16 with p16 | ⟨y16, c16, v16⟩
          · have D16 : DJm M16 t f z p16 o e := q16
            refine wp_istore_n (loc' := [(2, 69), (0, w8), (0, 0), (0, w16)]) dX8_not1_102 rfl (Nat.le_of_ble_eq_true rfl) rfl ?_
            refine wp_iload_n dX8_not1_103 rfl rfl ?_
            refine wp_if_eq (tgt := 115) dX8_not1_104 (by decide) (fun _ => ?_) (fun h => absurd h (by decide))
            refine wp_iload_n dX8_not1_115 rfl rfl ?_
            refine wp_iload_n dX8_not1_116 rfl rfl ?_
            refine wp_icmp_ne (tgt := 124) dX8_not1_117 (by decide) (fun h117 => ?_) (fun h117 => ?_)
            · refine wp_iconst dX8_not1_124 (by decide) ?_
              refine wp_iret rfl dX8_not1_125 ?_
              have ee : notP f z (some q) (gBn f z opC 1 P) x = pbd (P x) (fun y c v => gL f z opC P 1 y c v) := if_neg t1
              rw [ee, r8] at k
              have eo : opC (lxT f z y8) = -11 := (if_neg t11).trans (if_pos t14)
              have e2 : gL f z opC P 1 y8 c8 v8 = pbd (P (lxN f z y8)) (fun y c' v' => gL f z opC P 0 y (c8 ++ c' ++ [opC (lxT f z y8)]) (fun e => jn (opC (lxT f z y8)) (v8 e) (v' e))) := if_neg (by rw [eo]; decide)
              replace k : ∀ M' w, PoM M0 t f z o e (gL f z opC P 1 y8 c8 v8) M' w → Q (some (0, w)) M' := k
              rw [e2, r16] at k
              exact k _ _ ⟨F16, D16⟩
            · refine wp_iconst dX8_not1_120 (by decide) ?_
              refine wp_goto (tgt := 125) dX8_not1_121 (by decide) ?_
              refine wp_iret rfl dX8_not1_125 ?_
              have ee : notP f z (some q) (gBn f z opC 1 P) x = pbd (P x) (fun y c v => gL f z opC P 1 y c v) := if_neg t1
              rw [ee, r8] at k
              have eo : opC (lxT f z y8) = -11 := (if_neg t11).trans (if_pos t14)
              have e2 : gL f z opC P 1 y8 c8 v8 = pbd (P (lxN f z y8)) (fun y c' v' => gL f z opC P 0 y (c8 ++ c' ++ [opC (lxT f z y8)]) (fun e => jn (opC (lxT f z y8)) (v8 e) (v' e))) := if_neg (by rw [eo]; decide)
              replace k : ∀ M' w, PoM M0 t f z o e (gL f z opC P 1 y8 c8 v8) M' w → Q (some (0, w)) M' := k
              rw [e2, r16] at k
              exact k _ _ ⟨F16, D16⟩
          · obtain ⟨J16, e16⟩ : RJm M16 t f z y16 o e ∧ w16 = v16 e := q16
            obtain ⟨b16, B16, _⟩ : (lxN f z y8) + c16.length ≤ y16 ∧ (y16 : Int) ≤ z ∧ _ := b16
            refine wp_istore_n (loc' := [(2, 69), (0, w8), (0, 0), (0, w16)]) dX8_not1_102 rfl (Nat.le_of_ble_eq_true rfl) rfl ?_
            refine wp_iload_n dX8_not1_103 rfl rfl ?_
            refine wp_if_eq (tgt := 115) dX8_not1_104 (by decide) (fun _ => ?_) (fun h => absurd h (by decide))
            refine wp_iload_n dX8_not1_115 rfl rfl ?_
            refine wp_iload_n dX8_not1_116 rfl rfl ?_
            refine wp_icmp_ne (tgt := 124) dX8_not1_117 (by decide) (fun h117 => ?_) (fun h117 => ?_)
            · refine wp_iconst dX8_not1_124 (by decide) ?_
              refine wp_iret rfl dX8_not1_125 ?_
              have ee : notP f z (some q) (gBn f z opC 1 P) x = pbd (P x) (fun y c v => gL f z opC P 1 y c v) := if_neg t1
              rw [ee, r8] at k
              have eo : opC (lxT f z y8) = -11 := (if_neg t11).trans (if_pos t14)
              have e2 : gL f z opC P 1 y8 c8 v8 = pbd (P (lxN f z y8)) (fun y c' v' => gL f z opC P 0 y (c8 ++ c' ++ [opC (lxT f z y8)]) (fun e => jn (opC (lxT f z y8)) (v8 e) (v' e))) := if_neg (by rw [eo]; decide)
              replace k : ∀ M' w, PoM M0 t f z o e (gL f z opC P 1 y8 c8 v8) M' w → Q (some (0, w)) M' := k
              rw [e2, r16] at k
              refine k _ _ ⟨F16, J16, ?_⟩
              show _ = jn (opC (lxT f z y8)) (v8 e) (v16 e)
              rw [eo, ← e8, ← e16, jn11]
              first | exact (if_pos (by omega)).symm | exact (if_neg (by omega)).symm
            · refine wp_iconst dX8_not1_120 (by decide) ?_
              refine wp_goto (tgt := 125) dX8_not1_121 (by decide) ?_
              refine wp_iret rfl dX8_not1_125 ?_
              have ee : notP f z (some q) (gBn f z opC 1 P) x = pbd (P x) (fun y c v => gL f z opC P 1 y c v) := if_neg t1
              rw [ee, r8] at k
              have eo : opC (lxT f z y8) = -11 := (if_neg t11).trans (if_pos t14)
              have e2 : gL f z opC P 1 y8 c8 v8 = pbd (P (lxN f z y8)) (fun y c' v' => gL f z opC P 0 y (c8 ++ c' ++ [opC (lxT f z y8)]) (fun e => jn (opC (lxT f z y8)) (v8 e) (v' e))) := if_neg (by rw [eo]; decide)
              replace k : ∀ M' w, PoM M0 t f z o e (gL f z opC P 1 y8 c8 v8) M' w → Q (some (0, w)) M' := k
              rw [e2, r16] at k
              refine k _ _ ⟨F16, J16, ?_⟩
              show _ = jn (opC (lxT f z y8)) (v8 e) (v16 e)
              rw [eo, ← e8, ← e16, jn11]
              first | exact (if_pos (by omega)).symm | exact (if_neg (by omega)).symm
        · refine wp_if_ne (tgt := 77) dX8_not1_72 (by decide) (fun h => absurd h (by decide)) (fun _ => ?_)
          refine wp_iload_n dX8_not1_75 rfl rfl ?_
          refine wp_iret rfl dX8_not1_76 ?_
          have ee : notP f z (some q) (gBn f z opC 1 P) x = pbd (P x) (fun y c v => gL f z opC P 1 y c v) := if_neg t1
          rw [ee, r8] at k
          have e2 : gL f z opC P 1 y8 c8 v8 = .inr (y8, c8, v8) := if_pos (show opC (lxT f z y8) = 0 from (if_neg t11).trans (if_neg t14))
          replace k : ∀ M' w, PoM M0 t f z o e (gL f z opC P 1 y8 c8 v8) M' w → Q (some (0, w)) M' := k
          rw [e2] at k
          exact k _ _ ⟨F8, J8, e8⟩
set_option maxRecDepth 20000 in
set_option maxHeartbeats 4000000 in
theorem lq_term2 {l : Launch} {g : Gw} {n : Nat} (hn : 90 ≤ n) {t : Nat} {f : Nat → Int} {z : Int} {e : Int → Int} {B : Nat} (hB8 : 12 ≤ B) (hB : BT f z) {o : Int} {P : Nat → PR} (hs : CMm l g n t f z e m_X8_atom2 [(9, 0)] B o P) (hq : ∀ x : Nat, (x : Int) ≤ z → PQ z x (P x)) {d : Nat} (hd : B + 1 ≤ d) : ∀ (m x : Nat) (ce : List Int) (vl : Vl) (v : Int) (M0 : Mm) (Q : Option Wd → Mm → Prop), z ≤ (x : Int) + m → RJm M0 t f z x o e → (x : Int) ≤ z → v = vl e → (∀ M' w, PoM M0 t f z o e (gL f z opT P m x ce vl) M' w → Q (some (0, w)) M') → Wp l g d 0 0 n m_X8_term2 5 [] [(2, 69), (0, v)] M0 Q := by
  intro m
  induction m with
  | zero =>
    intro x ce vl v M0 Q hm hJ hx hv k
    refine wp_aload_n dX8_term2_5 rfl rfl ?_
    refine wp_bipush dX8_term2_6 (by decide) (by decide) ?_
    refine wp_callV0 (d' := d - 1) cv_RX8_222 69 rfl [(0, 42)] [] rfl rfl (Or.inl ⟨_, _, rfl, by decide, rfl, by omega, by omega⟩) (by omega) (Nat.le_of_ble_eq_true rfl) dX8_term2_8 rfl (Nat.le_of_ble_eq_true rfl) (by omega) (loc1 := [(2, 69), (0, 42)]) rfl ?_
    refine sp_isSg hn hJ 42 (by decide) (fun t1 => absurd t1 (by rw [lxT_end (by omega)]; decide)) (fun t1 => ?_)
    refine wp_if_eq (tgt := 28) dX8_term2_11 (by decide) (fun _ => ?_) (fun h => absurd h (by decide))
    refine wp_iload_n dX8_term2_28 rfl rfl ?_
    refine wp_iret rfl dX8_term2_29 ?_
    exact k _ _ ⟨Fr.rf, hJ, hv⟩
  | succ m ih =>
    intro x ce vl v M0 Q hm hJ hx hv k
    refine wp_aload_n dX8_term2_5 rfl rfl ?_
    refine wp_bipush dX8_term2_6 (by decide) (by decide) ?_
    refine wp_callV0 (d' := d - 1) cv_RX8_222 69 rfl [(0, 42)] [] rfl rfl (Or.inl ⟨_, _, rfl, by decide, rfl, by omega, by omega⟩) (by omega) (Nat.le_of_ble_eq_true rfl) dX8_term2_8 rfl (Nat.le_of_ble_eq_true rfl) (by omega) (loc1 := [(2, 69), (0, 42)]) rfl ?_
    refine sp_isSg hn hJ 42 (by decide) (fun t1 => ?_) (fun t1 => ?_)
    · have g1 := ((hJ).2.1.2.2.sgn (s := 42) (by decide)).mpr t1
      refine wp_if_eq (tgt := 28) dX8_term2_11 (by decide) (fun h => absurd h (by decide)) (fun _ => ?_)
      refine wp_aload_n dX8_term2_14 rfl rfl ?_
      refine wp_callV0 (d' := d - 1) cv_RX8_197 69 rfl [] [] rfl rfl (Or.inl ⟨_, _, rfl, by decide, rfl, by omega, by omega⟩) (by omega) (Nat.le_of_ble_eq_true rfl) dX8_term2_15 rfl (Nat.le_of_ble_eq_true rfl) (by omega) (loc1 := [(2, 69), (9, 0), (9, 0)]) rfl ?_
      refine sp_next hn (by omega) hB (hJ).1 ((hJ).2.1.2.1 ((hJ).2.1.2.2.ne4 (by omega))) (lxN_le hx).1 (fun M2 f2 l2 => ?_)
      have J2 := (hJ).step f2 l2
      have F2 := ((Fr.rf : Fr VMr M0 M0)).tr (f2.mono VM1.r)
      have X2 := lxN_le (f := f) hx
      have Y2 := lxA_le (f := f) hx
      refine wp_iload_n dX8_term2_18 rfl rfl ?_
      refine wp_aload_n dX8_term2_19 rfl rfl ?_
      refine wp_callV0 (d' := d - 1) cv_RX8_291 69 rfl [] [(0, v)] rfl rfl (Or.inl ⟨_, _, rfl, by decide, rfl, by omega, by omega⟩) (by omega) (Nat.le_of_ble_eq_true rfl) dX8_term2_20 rfl (Nat.le_of_ble_eq_true rfl) (by omega) (loc1 := [(2, 69), (9, 0)]) rfl ?_
      refine hs _ _ _ _ (by omega) J2 X2.1 (fun M3 w3 q3 => ?_)
      obtain ⟨f3, q3⟩ := q3
      have F3 := (F2).tr f3
      have b3 := hq _ X2.1
      generalize r3 : P (lxN f z x) = u3 at q3 b3
      rcases u3 with p3 | ⟨y3, c3, v3⟩
      · have D3 : DJm M3 t f z p3 o e := q3
        refine wp_imulw dX8_term2_23 ?_
        refine wp_istore_n (loc' := [(2, 69), (0, (wrap (v * w3)))]) dX8_term2_24 rfl (Nat.le_of_ble_eq_true rfl) rfl ?_
        refine wp_goto (tgt := 5) dX8_term2_25 (by decide) ?_
        have eo : opT (lxT f z x) = -14 := if_pos t1
        have ee : gL f z opT P (m + 1) x ce vl = pbd (P (lxN f z x)) (fun y c' v' => gL f z opT P m y (ce ++ c' ++ [opT (lxT f z x)]) (fun e => jn (opT (lxT f z x)) (vl e) (v' e))) := if_neg (by rw [eo]; decide)
        rw [ee, r3] at k
        exact lqd_term2 hn (by omega) (D3) (fun M9 w9 f9 d9 => k M9 w9 ⟨(F3).tr f9, d9⟩)
      · obtain ⟨J3, e3⟩ : RJm M3 t f z y3 o e ∧ w3 = v3 e := q3
        obtain ⟨b3, B3, _⟩ : (lxN f z x) + c3.length ≤ y3 ∧ (y3 : Int) ≤ z ∧ _ := b3
        refine wp_imulw dX8_term2_23 ?_
        refine wp_istore_n (loc' := [(2, 69), (0, (wrap (v * w3)))]) dX8_term2_24 rfl (Nat.le_of_ble_eq_true rfl) rfl ?_
        refine wp_goto (tgt := 5) dX8_term2_25 (by decide) ?_
        have eo : opT (lxT f z x) = -14 := if_pos t1
        have ee : gL f z opT P (m + 1) x ce vl = pbd (P (lxN f z x)) (fun y c' v' => gL f z opT P m y (ce ++ c' ++ [opT (lxT f z x)]) (fun e => jn (opT (lxT f z x)) (vl e) (v' e))) := if_neg (by rw [eo]; decide)
        rw [ee, r3] at k
        have hv2 : (wrap (v * w3)) = jn (opT (lxT f z x)) (vl e) (v3 e) := by
          rw [eo, ← hv, ← e3, jn14]
        have hg := X2.2.2 (by omega)
        exact ih y3 _ (fun e => jn (opT (lxT f z x)) (vl e) (v3 e)) _ _ Q (by omega) J3 B3 hv2 (fun M9 w9 q9 => k M9 w9 ⟨(F3).tr q9.1, q9.2⟩)
    · refine wp_if_eq (tgt := 28) dX8_term2_11 (by decide) (fun _ => ?_) (fun h => absurd h (by decide))
      refine wp_iload_n dX8_term2_28 rfl rfl ?_
      refine wp_iret rfl dX8_term2_29 ?_
      have ee : gL f z opT P (m + 1) x ce vl = .inr (x, ce, vl) := if_pos (show opT (lxT f z x) = 0 from if_neg t1)
      rw [ee] at k
      exact k _ _ ⟨Fr.rf, hJ, hv⟩
set_option maxRecDepth 20000 in
set_option maxHeartbeats 4000000 in
theorem cm_term2 {l : Launch} {g : Gw} {n : Nat} (hn : 90 ≤ n) {t : Nat} {f : Nat → Int} {z : Int} {e : Int → Int} {B : Nat} (hB8 : 12 ≤ B) (hB : BT f z) {o : Int} {P : Nat → PR} (hs : CMm l g n t f z e m_X8_atom2 [(9, 0)] B o P) (hq : ∀ x : Nat, (x : Int) ≤ z → PQ z x (P x)) : CMm l g n t f z e m_X8_term2 [(9, 0)] (B + 1) o (gBn f z opT 160 P) := by
  intro d M0 Q x hd hJ hx k
  have hz1 := hJ.1.2.2.2.2.2.1
  refine wp_aload_n dX8_term2_0 rfl rfl ?_
  refine wp_callV0 (d' := d - 1) cv_RX8_291 69 rfl [] [] rfl rfl (Or.inl ⟨_, _, rfl, by decide, rfl, by omega, by omega⟩) (by omega) (Nat.le_of_ble_eq_true rfl) dX8_term2_1 rfl (Nat.le_of_ble_eq_true rfl) (by omega) (loc1 := [(2, 69), (9, 0)]) rfl ?_
  refine hs _ _ _ _ (by omega) hJ hx (fun M1 w1 q1 => ?_)
  obtain ⟨f1, q1⟩ := q1
  have F1 := ((Fr.rf : Fr VMr M0 M0)).tr f1
  have b1 := hq _ hx
  generalize r1 : P x = u1 at q1 b1
  rcases u1 with p1 | ⟨y1, c1, v1⟩
  · have D1 : DJm M1 t f z p1 o e := q1
    refine wp_istore_n (loc' := [(2, 69), (0, w1)]) dX8_term2_4 rfl (Nat.le_of_ble_eq_true rfl) rfl ?_
    have ee : gBn f z opT 160 P x = pbd (P x) (fun y c v => gL f z opT P 160 y c v) := rfl
    rw [ee, r1] at k
    exact lqd_term2 hn (by omega) (D1) (fun M9 w9 f9 d9 => k M9 w9 ⟨(F1).tr f9, d9⟩)
  · obtain ⟨J1, e1⟩ : RJm M1 t f z y1 o e ∧ w1 = v1 e := q1
    obtain ⟨b1, B1, _⟩ : x + c1.length ≤ y1 ∧ (y1 : Int) ≤ z ∧ _ := b1
    refine wp_istore_n (loc' := [(2, 69), (0, w1)]) dX8_term2_4 rfl (Nat.le_of_ble_eq_true rfl) rfl ?_
    have ee : gBn f z opT 160 P x = pbd (P x) (fun y c v => gL f z opT P 160 y c v) := rfl
    rw [ee, r1] at k
    exact lq_term2 hn hB8 hB hs hq hd 160 y1 c1 v1 w1 _ Q (by omega) J1 B1 e1 (fun M9 w9 q9 => k M9 w9 ⟨(F1).tr q9.1, q9.2⟩)
set_option maxRecDepth 20000 in
set_option maxHeartbeats 4000000 in
theorem lq_added2 {l : Launch} {g : Gw} {n : Nat} (hn : 90 ≤ n) {t : Nat} {f : Nat → Int} {z : Int} {e : Int → Int} {B : Nat} (hB8 : 12 ≤ B) (hB : BT f z) {o : Int} {P : Nat → PR} (hs : CMm l g n t f z e m_X8_term2 [(9, 0)] B o P) (hq : ∀ x : Nat, (x : Int) ≤ z → PQ z x (P x)) {d : Nat} (hd : B + 1 ≤ d) : ∀ (m x : Nat) (ce : List Int) (vl : Vl) (v : Int) (u2 : Wd) (u3 : Wd) (M0 : Mm) (Q : Option Wd → Mm → Prop), z ≤ (x : Int) + m → RJm M0 t f z x o e → (x : Int) ≤ z → v = vl e → (∀ M' w, PoM M0 t f z o e (gL f z opS P m x ce vl) M' w → Q (some (0, w)) M') → Wp l g d 0 0 n m_X8_added2 5 [] [(2, 69), (0, v), u2, u3] M0 Q := by
  intro m
  induction m with
  | zero =>
    intro x ce vl v u2 u3 M0 Q hm hJ hx hv k
    refine wp_aload_n dX8_added2_5 rfl rfl ?_
    refine wp_bipush dX8_added2_6 (by decide) (by decide) ?_
    refine wp_callV0 (d' := d - 1) cv_RX8_222 69 rfl [(0, 43)] [] rfl rfl (Or.inl ⟨_, _, rfl, by decide, rfl, by omega, by omega⟩) (by omega) (Nat.le_of_ble_eq_true rfl) dX8_added2_8 rfl (Nat.le_of_ble_eq_true rfl) (by omega) (loc1 := [(2, 69), (0, 43)]) rfl ?_
    refine sp_isSg hn hJ 43 (by decide) (fun t1 => absurd t1 (by rw [lxT_end (by omega)]; decide)) (fun t1 => ?_)
    refine wp_if_ne (tgt := 23) dX8_added2_11 (by decide) (fun h => absurd h (by decide)) (fun _ => ?_)
    refine wp_aload_n dX8_added2_14 rfl rfl ?_
    refine wp_bipush dX8_added2_15 (by decide) (by decide) ?_
    refine wp_callV0 (d' := d - 1) cv_RX8_222 69 rfl [(0, 45)] [] rfl rfl (Or.inl ⟨_, _, rfl, by decide, rfl, by omega, by omega⟩) (by omega) (Nat.le_of_ble_eq_true rfl) dX8_added2_17 rfl (Nat.le_of_ble_eq_true rfl) (by omega) (loc1 := [(2, 69), (0, 45)]) rfl ?_
    refine sp_isSg hn hJ 45 (by decide) (fun t2 => absurd t2 (by rw [lxT_end (by omega)]; decide)) (fun t2 => ?_)
    refine wp_if_eq (tgt := 66) dX8_added2_20 (by decide) (fun _ => ?_) (fun h => absurd h (by decide))
    refine wp_iload_n dX8_added2_66 rfl rfl ?_
    refine wp_iret rfl dX8_added2_67 ?_
    exact k _ _ ⟨Fr.rf, hJ, hv⟩
  | succ m ih =>
    intro x ce vl v u2 u3 M0 Q hm hJ hx hv k
    refine wp_aload_n dX8_added2_5 rfl rfl ?_
    refine wp_bipush dX8_added2_6 (by decide) (by decide) ?_
    refine wp_callV0 (d' := d - 1) cv_RX8_222 69 rfl [(0, 43)] [] rfl rfl (Or.inl ⟨_, _, rfl, by decide, rfl, by omega, by omega⟩) (by omega) (Nat.le_of_ble_eq_true rfl) dX8_added2_8 rfl (Nat.le_of_ble_eq_true rfl) (by omega) (loc1 := [(2, 69), (0, 43)]) rfl ?_
    refine sp_isSg hn hJ 43 (by decide) (fun t1 => ?_) (fun t1 => ?_)
    · have g1 := ((hJ).2.1.2.2.sgn (s := 43) (by decide)).mpr t1
      refine wp_if_ne (tgt := 23) dX8_added2_11 (by decide) (fun _ => ?_) (fun h => absurd h (by decide))
      refine wp_aload_n dX8_added2_23 rfl rfl ?_
      refine wp_get 69 rfl fl_RX8_175 rfl ⟨by omega, by omega⟩ dX8_added2_24 rfl (v := 43) (g1.2) ?_
      refine wp_ldc2 (x := 43) dX8_added2_27 kl_RX8_239 (by decide) (wr_l (by omega)) ?_
      refine wp_lcmp dX8_added2_30 ?_
      change Wp _ _ _ _ _ _ _ _ ((0, 0) :: _) _ _ _
      refine wp_if_ne (tgt := 38) dX8_added2_31 (by decide) (fun h => absurd h (by decide)) (fun _ => ?_)
      refine wp_iconst dX8_added2_34 (by decide) ?_
      refine wp_goto (tgt := 39) dX8_added2_35 (by decide) ?_
      refine wp_istore_n (loc' := [(2, 69), (0, v), (0, 1), u3]) dX8_added2_39 rfl (Nat.le_of_ble_eq_true rfl) rfl ?_
      refine wp_aload_n dX8_added2_40 rfl rfl ?_
      refine wp_callV0 (d' := d - 1) cv_RX8_197 69 rfl [] [] rfl rfl (Or.inl ⟨_, _, rfl, by decide, rfl, by omega, by omega⟩) (by omega) (Nat.le_of_ble_eq_true rfl) dX8_added2_41 rfl (Nat.le_of_ble_eq_true rfl) (by omega) (loc1 := [(2, 69), (9, 0), (9, 0)]) rfl ?_
      refine sp_next hn (by omega) hB (hJ).1 ((hJ).2.1.2.1 ((hJ).2.1.2.2.ne4 (by omega))) (lxN_le hx).1 (fun M2 f2 l2 => ?_)
      have J2 := (hJ).step f2 l2
      have F2 := ((Fr.rf : Fr VMr M0 M0)).tr (f2.mono VM1.r)
      have X2 := lxN_le (f := f) hx
      have Y2 := lxA_le (f := f) hx
      refine wp_aload_n dX8_added2_44 rfl rfl ?_
      refine wp_callV0 (d' := d - 1) cv_RX8_294 69 rfl [] [] rfl rfl (Or.inl ⟨_, _, rfl, by decide, rfl, by omega, by omega⟩) (by omega) (Nat.le_of_ble_eq_true rfl) dX8_added2_45 rfl (Nat.le_of_ble_eq_true rfl) (by omega) (loc1 := [(2, 69), (9, 0)]) rfl ?_
      refine hs _ _ _ _ (by omega) J2 X2.1 (fun M3 w3 q3 => ?_)
      obtain ⟨f3, q3⟩ := q3
      have F3 := (F2).tr f3
      have b3 := hq _ X2.1
      generalize r3 : P (lxN f z x) = u3 at q3 b3
      rcases u3 with p3 | ⟨y3, c3, v3⟩
      · have D3 : DJm M3 t f z p3 o e := q3
        refine wp_istore_n (loc' := [(2, 69), (0, v), (0, 1), (0, w3)]) dX8_added2_48 rfl (Nat.le_of_ble_eq_true rfl) rfl ?_
        refine wp_iload_n dX8_added2_49 rfl rfl ?_
        refine wp_if_eq (tgt := 59) dX8_added2_50 (by decide) (fun h => absurd h (by decide)) (fun _ => ?_)
        refine wp_iload_n dX8_added2_53 rfl rfl ?_
        refine wp_iload_n dX8_added2_54 rfl rfl ?_
        refine wp_iaddw dX8_added2_55 ?_
        refine wp_goto (tgt := 62) dX8_added2_56 (by decide) ?_
        refine wp_istore_n (loc' := [(2, 69), (0, (wrap (v + w3))), (0, 1), (0, w3)]) dX8_added2_62 rfl (Nat.le_of_ble_eq_true rfl) rfl ?_
        refine wp_goto (tgt := 5) dX8_added2_63 (by decide) ?_
        have eo : opS (lxT f z x) = -12 := if_pos t1
        have ee : gL f z opS P (m + 1) x ce vl = pbd (P (lxN f z x)) (fun y c' v' => gL f z opS P m y (ce ++ c' ++ [opS (lxT f z x)]) (fun e => jn (opS (lxT f z x)) (vl e) (v' e))) := if_neg (by rw [eo]; decide)
        rw [ee, r3] at k
        exact lqd_added2 hn (by omega) (D3) (fun M9 w9 f9 d9 => k M9 w9 ⟨(F3).tr f9, d9⟩)
      · obtain ⟨J3, e3⟩ : RJm M3 t f z y3 o e ∧ w3 = v3 e := q3
        obtain ⟨b3, B3, _⟩ : (lxN f z x) + c3.length ≤ y3 ∧ (y3 : Int) ≤ z ∧ _ := b3
        refine wp_istore_n (loc' := [(2, 69), (0, v), (0, 1), (0, w3)]) dX8_added2_48 rfl (Nat.le_of_ble_eq_true rfl) rfl ?_
        refine wp_iload_n dX8_added2_49 rfl rfl ?_
        refine wp_if_eq (tgt := 59) dX8_added2_50 (by decide) (fun h => absurd h (by decide)) (fun _ => ?_)
        refine wp_iload_n dX8_added2_53 rfl rfl ?_
        refine wp_iload_n dX8_added2_54 rfl rfl ?_
        refine wp_iaddw dX8_added2_55 ?_
        refine wp_goto (tgt := 62) dX8_added2_56 (by decide) ?_
        refine wp_istore_n (loc' := [(2, 69), (0, (wrap (v + w3))), (0, 1), (0, w3)]) dX8_added2_62 rfl (Nat.le_of_ble_eq_true rfl) rfl ?_
        refine wp_goto (tgt := 5) dX8_added2_63 (by decide) ?_
        have eo : opS (lxT f z x) = -12 := if_pos t1
        have ee : gL f z opS P (m + 1) x ce vl = pbd (P (lxN f z x)) (fun y c' v' => gL f z opS P m y (ce ++ c' ++ [opS (lxT f z x)]) (fun e => jn (opS (lxT f z x)) (vl e) (v' e))) := if_neg (by rw [eo]; decide)
        rw [ee, r3] at k
        have hv2 : (wrap (v + w3)) = jn (opS (lxT f z x)) (vl e) (v3 e) := by
          rw [eo, ← hv, ← e3, jn12]
        have hg := X2.2.2 (by omega)
        exact ih y3 _ (fun e => jn (opS (lxT f z x)) (vl e) (v3 e)) _ _ _ _ Q (by omega) J3 B3 hv2 (fun M9 w9 q9 => k M9 w9 ⟨(F3).tr q9.1, q9.2⟩)
    · refine wp_if_ne (tgt := 23) dX8_added2_11 (by decide) (fun h => absurd h (by decide)) (fun _ => ?_)
      refine wp_aload_n dX8_added2_14 rfl rfl ?_
      refine wp_bipush dX8_added2_15 (by decide) (by decide) ?_
      refine wp_callV0 (d' := d - 1) cv_RX8_222 69 rfl [(0, 45)] [] rfl rfl (Or.inl ⟨_, _, rfl, by decide, rfl, by omega, by omega⟩) (by omega) (Nat.le_of_ble_eq_true rfl) dX8_added2_17 rfl (Nat.le_of_ble_eq_true rfl) (by omega) (loc1 := [(2, 69), (0, 45)]) rfl ?_
      refine sp_isSg hn hJ 45 (by decide) (fun t4 => ?_) (fun t4 => ?_)
      · have g4 := ((hJ).2.1.2.2.sgn (s := 45) (by decide)).mpr t4
        refine wp_if_eq (tgt := 66) dX8_added2_20 (by decide) (fun h => absurd h (by decide)) (fun _ => ?_)
        refine wp_aload_n dX8_added2_23 rfl rfl ?_
        refine wp_get 69 rfl fl_RX8_175 rfl ⟨by omega, by omega⟩ dX8_added2_24 rfl (v := 45) (g4.2) ?_
        refine wp_ldc2 (x := 43) dX8_added2_27 kl_RX8_239 (by decide) (wr_l (by omega)) ?_
        refine wp_lcmp dX8_added2_30 ?_
        change Wp _ _ _ _ _ _ _ _ ((0, 1) :: _) _ _ _
        refine wp_if_ne (tgt := 38) dX8_added2_31 (by decide) (fun _ => ?_) (fun h => absurd h (by decide))
        refine wp_iconst dX8_added2_38 (by decide) ?_
        refine wp_istore_n (loc' := [(2, 69), (0, v), (0, 0), u3]) dX8_added2_39 rfl (Nat.le_of_ble_eq_true rfl) rfl ?_
        refine wp_aload_n dX8_added2_40 rfl rfl ?_
        refine wp_callV0 (d' := d - 1) cv_RX8_197 69 rfl [] [] rfl rfl (Or.inl ⟨_, _, rfl, by decide, rfl, by omega, by omega⟩) (by omega) (Nat.le_of_ble_eq_true rfl) dX8_added2_41 rfl (Nat.le_of_ble_eq_true rfl) (by omega) (loc1 := [(2, 69), (9, 0), (9, 0)]) rfl ?_
        refine sp_next hn (by omega) hB (hJ).1 ((hJ).2.1.2.1 ((hJ).2.1.2.2.ne4 (by omega))) (lxN_le hx).1 (fun M5 f5 l5 => ?_)
        have J5 := (hJ).step f5 l5
        have F5 := ((Fr.rf : Fr VMr M0 M0)).tr (f5.mono VM1.r)
        have X5 := lxN_le (f := f) hx
        have Y5 := lxA_le (f := f) hx
        refine wp_aload_n dX8_added2_44 rfl rfl ?_
        refine wp_callV0 (d' := d - 1) cv_RX8_294 69 rfl [] [] rfl rfl (Or.inl ⟨_, _, rfl, by decide, rfl, by omega, by omega⟩) (by omega) (Nat.le_of_ble_eq_true rfl) dX8_added2_45 rfl (Nat.le_of_ble_eq_true rfl) (by omega) (loc1 := [(2, 69), (9, 0)]) rfl ?_
        refine hs _ _ _ _ (by omega) J5 X5.1 (fun M6 w6 q6 => ?_)
        obtain ⟨f6, q6⟩ := q6
        have F6 := (F5).tr f6
        have b6 := hq _ X5.1
        generalize r6 : P (lxN f z x) = u6 at q6 b6
        rcases u6 with p6 | ⟨y6, c6, v6⟩
        · have D6 : DJm M6 t f z p6 o e := q6
          refine wp_istore_n (loc' := [(2, 69), (0, v), (0, 0), (0, w6)]) dX8_added2_48 rfl (Nat.le_of_ble_eq_true rfl) rfl ?_
          refine wp_iload_n dX8_added2_49 rfl rfl ?_
          refine wp_if_eq (tgt := 59) dX8_added2_50 (by decide) (fun _ => ?_) (fun h => absurd h (by decide))
          refine wp_iload_n dX8_added2_59 rfl rfl ?_
          refine wp_iload_n dX8_added2_60 rfl rfl ?_
          refine wp_isubw dX8_added2_61 ?_
          refine wp_istore_n (loc' := [(2, 69), (0, (wrap (v - w6))), (0, 0), (0, w6)]) dX8_added2_62 rfl (Nat.le_of_ble_eq_true rfl) rfl ?_
          refine wp_goto (tgt := 5) dX8_added2_63 (by decide) ?_
          have eo : opS (lxT f z x) = -13 := (if_neg t1).trans (if_pos t4)
          have ee : gL f z opS P (m + 1) x ce vl = pbd (P (lxN f z x)) (fun y c' v' => gL f z opS P m y (ce ++ c' ++ [opS (lxT f z x)]) (fun e => jn (opS (lxT f z x)) (vl e) (v' e))) := if_neg (by rw [eo]; decide)
          rw [ee, r6] at k
          exact lqd_added2 hn (by omega) (D6) (fun M9 w9 f9 d9 => k M9 w9 ⟨(F6).tr f9, d9⟩)
        · obtain ⟨J6, e6⟩ : RJm M6 t f z y6 o e ∧ w6 = v6 e := q6
          obtain ⟨b6, B6, _⟩ : (lxN f z x) + c6.length ≤ y6 ∧ (y6 : Int) ≤ z ∧ _ := b6
          refine wp_istore_n (loc' := [(2, 69), (0, v), (0, 0), (0, w6)]) dX8_added2_48 rfl (Nat.le_of_ble_eq_true rfl) rfl ?_
          refine wp_iload_n dX8_added2_49 rfl rfl ?_
          refine wp_if_eq (tgt := 59) dX8_added2_50 (by decide) (fun _ => ?_) (fun h => absurd h (by decide))
          refine wp_iload_n dX8_added2_59 rfl rfl ?_
          refine wp_iload_n dX8_added2_60 rfl rfl ?_
          refine wp_isubw dX8_added2_61 ?_
          refine wp_istore_n (loc' := [(2, 69), (0, (wrap (v - w6))), (0, 0), (0, w6)]) dX8_added2_62 rfl (Nat.le_of_ble_eq_true rfl) rfl ?_
          refine wp_goto (tgt := 5) dX8_added2_63 (by decide) ?_
          have eo : opS (lxT f z x) = -13 := (if_neg t1).trans (if_pos t4)
          have ee : gL f z opS P (m + 1) x ce vl = pbd (P (lxN f z x)) (fun y c' v' => gL f z opS P m y (ce ++ c' ++ [opS (lxT f z x)]) (fun e => jn (opS (lxT f z x)) (vl e) (v' e))) := if_neg (by rw [eo]; decide)
          rw [ee, r6] at k
          have hv2 : (wrap (v - w6)) = jn (opS (lxT f z x)) (vl e) (v6 e) := by
            rw [eo, ← hv, ← e6, jn13]
          have hg := X5.2.2 (by omega)
          exact ih y6 _ (fun e => jn (opS (lxT f z x)) (vl e) (v6 e)) _ _ _ _ Q (by omega) J6 B6 hv2 (fun M9 w9 q9 => k M9 w9 ⟨(F6).tr q9.1, q9.2⟩)
      · refine wp_if_eq (tgt := 66) dX8_added2_20 (by decide) (fun _ => ?_) (fun h => absurd h (by decide))
        refine wp_iload_n dX8_added2_66 rfl rfl ?_
        refine wp_iret rfl dX8_added2_67 ?_
        have ee : gL f z opS P (m + 1) x ce vl = .inr (x, ce, vl) := if_pos (show opS (lxT f z x) = 0 from (if_neg t1).trans (if_neg t4))
        rw [ee] at k
        exact k _ _ ⟨Fr.rf, hJ, hv⟩
set_option maxRecDepth 20000 in
set_option maxHeartbeats 4000000 in
theorem cm_added2 {l : Launch} {g : Gw} {n : Nat} (hn : 90 ≤ n) {t : Nat} {f : Nat → Int} {z : Int} {e : Int → Int} {B : Nat} (hB8 : 12 ≤ B) (hB : BT f z) {o : Int} {P : Nat → PR} (hs : CMm l g n t f z e m_X8_term2 [(9, 0)] B o P) (hq : ∀ x : Nat, (x : Int) ≤ z → PQ z x (P x)) : CMm l g n t f z e m_X8_added2 [(9, 0), (9, 0), (9, 0)] (B + 1) o (gBn f z opS 160 P) := by
  intro d M0 Q x hd hJ hx k
  have hz1 := hJ.1.2.2.2.2.2.1
  refine wp_aload_n dX8_added2_0 rfl rfl ?_
  refine wp_callV0 (d' := d - 1) cv_RX8_294 69 rfl [] [] rfl rfl (Or.inl ⟨_, _, rfl, by decide, rfl, by omega, by omega⟩) (by omega) (Nat.le_of_ble_eq_true rfl) dX8_added2_1 rfl (Nat.le_of_ble_eq_true rfl) (by omega) (loc1 := [(2, 69), (9, 0)]) rfl ?_
  refine hs _ _ _ _ (by omega) hJ hx (fun M1 w1 q1 => ?_)
  obtain ⟨f1, q1⟩ := q1
  have F1 := ((Fr.rf : Fr VMr M0 M0)).tr f1
  have b1 := hq _ hx
  generalize r1 : P x = u1 at q1 b1
  rcases u1 with p1 | ⟨y1, c1, v1⟩
  · have D1 : DJm M1 t f z p1 o e := q1
    refine wp_istore_n (loc' := [(2, 69), (0, w1), (9, 0), (9, 0)]) dX8_added2_4 rfl (Nat.le_of_ble_eq_true rfl) rfl ?_
    have ee : gBn f z opS 160 P x = pbd (P x) (fun y c v => gL f z opS P 160 y c v) := rfl
    rw [ee, r1] at k
    exact lqd_added2 hn (by omega) (D1) (fun M9 w9 f9 d9 => k M9 w9 ⟨(F1).tr f9, d9⟩)
  · obtain ⟨J1, e1⟩ : RJm M1 t f z y1 o e ∧ w1 = v1 e := q1
    obtain ⟨b1, B1, _⟩ : x + c1.length ≤ y1 ∧ (y1 : Int) ≤ z ∧ _ := b1
    refine wp_istore_n (loc' := [(2, 69), (0, w1), (9, 0), (9, 0)]) dX8_added2_4 rfl (Nat.le_of_ble_eq_true rfl) rfl ?_
    have ee : gBn f z opS 160 P x = pbd (P x) (fun y c v => gL f z opS P 160 y c v) := rfl
    rw [ee, r1] at k
    exact lq_added2 hn hB8 hB hs hq hd 160 y1 c1 v1 w1 _ _ _ Q (by omega) J1 B1 e1 (fun M9 w9 q9 => k M9 w9 ⟨(F1).tr q9.1, q9.2⟩)
set_option maxRecDepth 20000 in
set_option maxHeartbeats 4000000 in
theorem lq_both2 {l : Launch} {g : Gw} {n : Nat} (hn : 90 ≤ n) {t : Nat} {f : Nat → Int} {z : Int} {e : Int → Int} {B : Nat} (hB8 : 12 ≤ B) (hB : BT f z) {o : Int} {P : Nat → PR} (hs : CMm l g n t f z e m_X8_not2 [(9, 0), (9, 0), (9, 0)] B o P) (hq : ∀ x : Nat, (x : Int) ≤ z → PQ z x (P x)) {d : Nat} (hd : B + 1 ≤ d) : ∀ (m x : Nat) (ce : List Int) (vl : Vl) (v : Int) (u2 : Wd) (M0 : Mm) (Q : Option Wd → Mm → Prop), z ≤ (x : Int) + m → RJm M0 t f z x o e → (x : Int) ≤ z → v = vl e → (∀ M' w, PoM M0 t f z o e (gL f z opA P m x ce vl) M' w → Q (some (0, w)) M') → Wp l g d 0 0 n m_X8_both2 5 [] [(2, 69), (0, v), u2] M0 Q := by
  intro m
  induction m with
  | zero =>
    intro x ce vl v u2 M0 Q hm hJ hx hv k
    refine wp_aload_n dX8_both2_5 rfl rfl ?_
    refine wp_bipush dX8_both2_6 (by decide) (by decide) ?_
    refine wp_bipush dX8_both2_8 (by decide) (by decide) ?_
    refine wp_bipush dX8_both2_10 (by decide) (by decide) ?_
    refine wp_iconst dX8_both2_12 (by decide) ?_
    refine wp_iconst dX8_both2_13 (by decide) ?_
    refine wp_iconst dX8_both2_14 (by decide) ?_
    refine wp_iconst dX8_both2_15 (by decide) ?_
    refine wp_iconst dX8_both2_16 (by decide) ?_
    refine wp_callV0 (d' := d - 1) cv_RX8_200 69 rfl [(0, 97), (0, 110), (0, 100), (0, 0), (0, 0), (0, 0), (0, 0), (0, 0)] [] rfl rfl (Or.inl ⟨_, _, rfl, by decide, rfl, by omega, by omega⟩) (by omega) (Nat.le_of_ble_eq_true rfl) dX8_both2_17 rfl (Nat.le_of_ble_eq_true rfl) (by omega) (loc1 := [(2, 69), (0, 97), (0, 110), (0, 100), (0, 0), (0, 0), (0, 0), (0, 0), (0, 0)]) rfl ?_
    refine sp_isWm_4 hn (by omega) hJ hx (fun t1 => absurd t1 (by rw [lxT_end (by omega)]; decide)) (fun t1 => ?_)
    refine wp_if_eq (tgt := 49) dX8_both2_20 (by decide) (fun _ => ?_) (fun h => absurd h (by decide))
    refine wp_iload_n dX8_both2_49 rfl rfl ?_
    refine wp_iret rfl dX8_both2_50 ?_
    exact k _ _ ⟨Fr.rf, hJ, hv⟩
  | succ m ih =>
    intro x ce vl v u2 M0 Q hm hJ hx hv k
    refine wp_aload_n dX8_both2_5 rfl rfl ?_
    refine wp_bipush dX8_both2_6 (by decide) (by decide) ?_
    refine wp_bipush dX8_both2_8 (by decide) (by decide) ?_
    refine wp_bipush dX8_both2_10 (by decide) (by decide) ?_
    refine wp_iconst dX8_both2_12 (by decide) ?_
    refine wp_iconst dX8_both2_13 (by decide) ?_
    refine wp_iconst dX8_both2_14 (by decide) ?_
    refine wp_iconst dX8_both2_15 (by decide) ?_
    refine wp_iconst dX8_both2_16 (by decide) ?_
    refine wp_callV0 (d' := d - 1) cv_RX8_200 69 rfl [(0, 97), (0, 110), (0, 100), (0, 0), (0, 0), (0, 0), (0, 0), (0, 0)] [] rfl rfl (Or.inl ⟨_, _, rfl, by decide, rfl, by omega, by omega⟩) (by omega) (Nat.le_of_ble_eq_true rfl) dX8_both2_17 rfl (Nat.le_of_ble_eq_true rfl) (by omega) (loc1 := [(2, 69), (0, 97), (0, 110), (0, 100), (0, 0), (0, 0), (0, 0), (0, 0), (0, 0)]) rfl ?_
    refine sp_isWm_4 hn (by omega) hJ hx (fun t1 => ?_) (fun t1 => ?_)
    · refine wp_if_eq (tgt := 49) dX8_both2_20 (by decide) (fun h => absurd h (by decide)) (fun _ => ?_)
      refine wp_aload_n dX8_both2_23 rfl rfl ?_
      refine wp_callV0 (d' := d - 1) cv_RX8_197 69 rfl [] [] rfl rfl (Or.inl ⟨_, _, rfl, by decide, rfl, by omega, by omega⟩) (by omega) (Nat.le_of_ble_eq_true rfl) dX8_both2_24 rfl (Nat.le_of_ble_eq_true rfl) (by omega) (loc1 := [(2, 69), (9, 0), (9, 0)]) rfl ?_
      refine sp_next hn (by omega) hB (hJ).1 ((hJ).2.1.2.1 ((hJ).2.1.2.2.ne4 (by omega))) (lxN_le hx).1 (fun M2 f2 l2 => ?_)
      have J2 := (hJ).step f2 l2
      have F2 := ((Fr.rf : Fr VMr M0 M0)).tr (f2.mono VM1.r)
      have X2 := lxN_le (f := f) hx
      have Y2 := lxA_le (f := f) hx
      refine wp_aload_n dX8_both2_27 rfl rfl ?_
      refine wp_callV0 (d' := d - 1) cv_RX8_300 69 rfl [] [] rfl rfl (Or.inl ⟨_, _, rfl, by decide, rfl, by omega, by omega⟩) (by omega) (Nat.le_of_ble_eq_true rfl) dX8_both2_28 rfl (Nat.le_of_ble_eq_true rfl) (by omega) (loc1 := [(2, 69), (9, 0), (9, 0), (9, 0)]) rfl ?_
      refine hs _ _ _ _ (by omega) J2 X2.1 (fun M3 w3 q3 => ?_)
      obtain ⟨f3, q3⟩ := q3
      have F3 := (F2).tr f3
      have b3 := hq _ X2.1
      generalize r3 : P (lxN f z x) = u3 at q3 b3
      rcases u3 with p3 | ⟨y3, c3, v3⟩
      · have D3 : DJm M3 t f z p3 o e := q3
        refine wp_istore_n (loc' := [(2, 69), (0, v), (0, w3)]) dX8_both2_31 rfl (Nat.le_of_ble_eq_true rfl) rfl ?_
        refine wp_iload_n dX8_both2_32 rfl rfl ?_
        refine wp_if_eq (tgt := 44) dX8_both2_33 (by decide) (fun h33 => ?_) (fun h33 => ?_)
        · refine wp_iconst dX8_both2_44 (by decide) ?_
          refine wp_istore_n (loc' := [(2, 69), (0, 0), (0, w3)]) dX8_both2_45 rfl (Nat.le_of_ble_eq_true rfl) rfl ?_
          refine wp_goto (tgt := 5) dX8_both2_46 (by decide) ?_
          have eo : opA (lxT f z x) = -8 := if_pos t1
          have ee : gL f z opA P (m + 1) x ce vl = pbd (P (lxN f z x)) (fun y c' v' => gL f z opA P m y (ce ++ c' ++ [opA (lxT f z x)]) (fun e => jn (opA (lxT f z x)) (vl e) (v' e))) := if_neg (by rw [eo]; decide)
          rw [ee, r3] at k
          exact lqd_both2 hn (by omega) (D3) (fun M9 w9 f9 d9 => k M9 w9 ⟨(F3).tr f9, d9⟩)
        · refine wp_iload_n dX8_both2_36 rfl rfl ?_
          refine wp_if_eq (tgt := 44) dX8_both2_37 (by decide) (fun h37 => ?_) (fun h37 => ?_)
          · refine wp_iconst dX8_both2_44 (by decide) ?_
            refine wp_istore_n (loc' := [(2, 69), (0, 0), (0, w3)]) dX8_both2_45 rfl (Nat.le_of_ble_eq_true rfl) rfl ?_
            refine wp_goto (tgt := 5) dX8_both2_46 (by decide) ?_
            have eo : opA (lxT f z x) = -8 := if_pos t1
            have ee : gL f z opA P (m + 1) x ce vl = pbd (P (lxN f z x)) (fun y c' v' => gL f z opA P m y (ce ++ c' ++ [opA (lxT f z x)]) (fun e => jn (opA (lxT f z x)) (vl e) (v' e))) := if_neg (by rw [eo]; decide)
            rw [ee, r3] at k
            exact lqd_both2 hn (by omega) (D3) (fun M9 w9 f9 d9 => k M9 w9 ⟨(F3).tr f9, d9⟩)
          · refine wp_iconst dX8_both2_40 (by decide) ?_
            refine wp_goto (tgt := 45) dX8_both2_41 (by decide) ?_
            refine wp_istore_n (loc' := [(2, 69), (0, 1), (0, w3)]) dX8_both2_45 rfl (Nat.le_of_ble_eq_true rfl) rfl ?_
            refine wp_goto (tgt := 5) dX8_both2_46 (by decide) ?_
            have eo : opA (lxT f z x) = -8 := if_pos t1
            have ee : gL f z opA P (m + 1) x ce vl = pbd (P (lxN f z x)) (fun y c' v' => gL f z opA P m y (ce ++ c' ++ [opA (lxT f z x)]) (fun e => jn (opA (lxT f z x)) (vl e) (v' e))) := if_neg (by rw [eo]; decide)
            rw [ee, r3] at k
            exact lqd_both2 hn (by omega) (D3) (fun M9 w9 f9 d9 => k M9 w9 ⟨(F3).tr f9, d9⟩)
      · obtain ⟨J3, e3⟩ : RJm M3 t f z y3 o e ∧ w3 = v3 e := q3
        obtain ⟨b3, B3, _⟩ : (lxN f z x) + c3.length ≤ y3 ∧ (y3 : Int) ≤ z ∧ _ := b3
        refine wp_istore_n (loc' := [(2, 69), (0, v), (0, w3)]) dX8_both2_31 rfl (Nat.le_of_ble_eq_true rfl) rfl ?_
        refine wp_iload_n dX8_both2_32 rfl rfl ?_
        refine wp_if_eq (tgt := 44) dX8_both2_33 (by decide) (fun h33 => ?_) (fun h33 => ?_)
        · refine wp_iconst dX8_both2_44 (by decide) ?_
          refine wp_istore_n (loc' := [(2, 69), (0, 0), (0, w3)]) dX8_both2_45 rfl (Nat.le_of_ble_eq_true rfl) rfl ?_
          refine wp_goto (tgt := 5) dX8_both2_46 (by decide) ?_
          have eo : opA (lxT f z x) = -8 := if_pos t1
          have ee : gL f z opA P (m + 1) x ce vl = pbd (P (lxN f z x)) (fun y c' v' => gL f z opA P m y (ce ++ c' ++ [opA (lxT f z x)]) (fun e => jn (opA (lxT f z x)) (vl e) (v' e))) := if_neg (by rw [eo]; decide)
          rw [ee, r3] at k
          have hv2 : 0 = jn (opA (lxT f z x)) (vl e) (v3 e) := by
            rw [eo, ← hv, ← e3, jn8]
            first | exact (if_pos (by omega)).symm | exact (if_neg (by omega)).symm
          have hg := X2.2.2 (by omega)
          exact ih y3 _ (fun e => jn (opA (lxT f z x)) (vl e) (v3 e)) _ _ _ Q (by omega) J3 B3 hv2 (fun M9 w9 q9 => k M9 w9 ⟨(F3).tr q9.1, q9.2⟩)
        · refine wp_iload_n dX8_both2_36 rfl rfl ?_
          refine wp_if_eq (tgt := 44) dX8_both2_37 (by decide) (fun h37 => ?_) (fun h37 => ?_)
          · refine wp_iconst dX8_both2_44 (by decide) ?_
            refine wp_istore_n (loc' := [(2, 69), (0, 0), (0, w3)]) dX8_both2_45 rfl (Nat.le_of_ble_eq_true rfl) rfl ?_
            refine wp_goto (tgt := 5) dX8_both2_46 (by decide) ?_
            have eo : opA (lxT f z x) = -8 := if_pos t1
            have ee : gL f z opA P (m + 1) x ce vl = pbd (P (lxN f z x)) (fun y c' v' => gL f z opA P m y (ce ++ c' ++ [opA (lxT f z x)]) (fun e => jn (opA (lxT f z x)) (vl e) (v' e))) := if_neg (by rw [eo]; decide)
            rw [ee, r3] at k
            have hv2 : 0 = jn (opA (lxT f z x)) (vl e) (v3 e) := by
              rw [eo, ← hv, ← e3, jn8]
              first | exact (if_pos (by omega)).symm | exact (if_neg (by omega)).symm
            have hg := X2.2.2 (by omega)
            exact ih y3 _ (fun e => jn (opA (lxT f z x)) (vl e) (v3 e)) _ _ _ Q (by omega) J3 B3 hv2 (fun M9 w9 q9 => k M9 w9 ⟨(F3).tr q9.1, q9.2⟩)
          · refine wp_iconst dX8_both2_40 (by decide) ?_
            refine wp_goto (tgt := 45) dX8_both2_41 (by decide) ?_
            refine wp_istore_n (loc' := [(2, 69), (0, 1), (0, w3)]) dX8_both2_45 rfl (Nat.le_of_ble_eq_true rfl) rfl ?_
            refine wp_goto (tgt := 5) dX8_both2_46 (by decide) ?_
            have eo : opA (lxT f z x) = -8 := if_pos t1
            have ee : gL f z opA P (m + 1) x ce vl = pbd (P (lxN f z x)) (fun y c' v' => gL f z opA P m y (ce ++ c' ++ [opA (lxT f z x)]) (fun e => jn (opA (lxT f z x)) (vl e) (v' e))) := if_neg (by rw [eo]; decide)
            rw [ee, r3] at k
            have hv2 : 1 = jn (opA (lxT f z x)) (vl e) (v3 e) := by
              rw [eo, ← hv, ← e3, jn8]
              first | exact (if_pos (by omega)).symm | exact (if_neg (by omega)).symm
            have hg := X2.2.2 (by omega)
            exact ih y3 _ (fun e => jn (opA (lxT f z x)) (vl e) (v3 e)) _ _ _ Q (by omega) J3 B3 hv2 (fun M9 w9 q9 => k M9 w9 ⟨(F3).tr q9.1, q9.2⟩)
    · refine wp_if_eq (tgt := 49) dX8_both2_20 (by decide) (fun _ => ?_) (fun h => absurd h (by decide))
      refine wp_iload_n dX8_both2_49 rfl rfl ?_
      refine wp_iret rfl dX8_both2_50 ?_
      have ee : gL f z opA P (m + 1) x ce vl = .inr (x, ce, vl) := if_pos (show opA (lxT f z x) = 0 from if_neg t1)
      rw [ee] at k
      exact k _ _ ⟨Fr.rf, hJ, hv⟩
set_option maxRecDepth 20000 in
set_option maxHeartbeats 4000000 in
theorem cm_both2 {l : Launch} {g : Gw} {n : Nat} (hn : 90 ≤ n) {t : Nat} {f : Nat → Int} {z : Int} {e : Int → Int} {B : Nat} (hB8 : 12 ≤ B) (hB : BT f z) {o : Int} {P : Nat → PR} (hs : CMm l g n t f z e m_X8_not2 [(9, 0), (9, 0), (9, 0)] B o P) (hq : ∀ x : Nat, (x : Int) ≤ z → PQ z x (P x)) : CMm l g n t f z e m_X8_both2 [(9, 0), (9, 0)] (B + 1) o (gBn f z opA 160 P) := by
  intro d M0 Q x hd hJ hx k
  have hz1 := hJ.1.2.2.2.2.2.1
  refine wp_aload_n dX8_both2_0 rfl rfl ?_
  refine wp_callV0 (d' := d - 1) cv_RX8_300 69 rfl [] [] rfl rfl (Or.inl ⟨_, _, rfl, by decide, rfl, by omega, by omega⟩) (by omega) (Nat.le_of_ble_eq_true rfl) dX8_both2_1 rfl (Nat.le_of_ble_eq_true rfl) (by omega) (loc1 := [(2, 69), (9, 0), (9, 0), (9, 0)]) rfl ?_
  refine hs _ _ _ _ (by omega) hJ hx (fun M1 w1 q1 => ?_)
  obtain ⟨f1, q1⟩ := q1
  have F1 := ((Fr.rf : Fr VMr M0 M0)).tr f1
  have b1 := hq _ hx
  generalize r1 : P x = u1 at q1 b1
  rcases u1 with p1 | ⟨y1, c1, v1⟩
  · have D1 : DJm M1 t f z p1 o e := q1
    refine wp_istore_n (loc' := [(2, 69), (0, w1), (9, 0)]) dX8_both2_4 rfl (Nat.le_of_ble_eq_true rfl) rfl ?_
    have ee : gBn f z opA 160 P x = pbd (P x) (fun y c v => gL f z opA P 160 y c v) := rfl
    rw [ee, r1] at k
    exact lqd_both2 hn (by omega) (D1) (fun M9 w9 f9 d9 => k M9 w9 ⟨(F1).tr f9, d9⟩)
  · obtain ⟨J1, e1⟩ : RJm M1 t f z y1 o e ∧ w1 = v1 e := q1
    obtain ⟨b1, B1, _⟩ : x + c1.length ≤ y1 ∧ (y1 : Int) ≤ z ∧ _ := b1
    refine wp_istore_n (loc' := [(2, 69), (0, w1), (9, 0)]) dX8_both2_4 rfl (Nat.le_of_ble_eq_true rfl) rfl ?_
    have ee : gBn f z opA 160 P x = pbd (P x) (fun y c v => gL f z opA P 160 y c v) := rfl
    rw [ee, r1] at k
    exact lq_both2 hn hB8 hB hs hq hd 160 y1 c1 v1 w1 _ _ Q (by omega) J1 B1 e1 (fun M9 w9 q9 => k M9 w9 ⟨(F1).tr q9.1, q9.2⟩)
set_option maxRecDepth 20000 in
set_option maxHeartbeats 4000000 in
theorem lq_either2 {l : Launch} {g : Gw} {n : Nat} (hn : 90 ≤ n) {t : Nat} {f : Nat → Int} {z : Int} {e : Int → Int} {B : Nat} (hB8 : 12 ≤ B) (hB : BT f z) {o : Int} {P : Nat → PR} (hs : CMm l g n t f z e m_X8_both2 [(9, 0), (9, 0)] B o P) (hq : ∀ x : Nat, (x : Int) ≤ z → PQ z x (P x)) {d : Nat} (hd : B + 1 ≤ d) : ∀ (m x : Nat) (ce : List Int) (vl : Vl) (v : Int) (u2 : Wd) (M0 : Mm) (Q : Option Wd → Mm → Prop), z ≤ (x : Int) + m → RJm M0 t f z x o e → (x : Int) ≤ z → v = vl e → (∀ M' w, PoM M0 t f z o e (gL f z opO P m x ce vl) M' w → Q (some (0, w)) M') → Wp l g d 0 0 n m_X8_either2 5 [] [(2, 69), (0, v), u2] M0 Q := by
  intro m
  induction m with
  | zero =>
    intro x ce vl v u2 M0 Q hm hJ hx hv k
    refine wp_aload_n dX8_either2_5 rfl rfl ?_
    refine wp_bipush dX8_either2_6 (by decide) (by decide) ?_
    refine wp_bipush dX8_either2_8 (by decide) (by decide) ?_
    refine wp_iconst dX8_either2_10 (by decide) ?_
    refine wp_iconst dX8_either2_11 (by decide) ?_
    refine wp_iconst dX8_either2_12 (by decide) ?_
    refine wp_iconst dX8_either2_13 (by decide) ?_
    refine wp_iconst dX8_either2_14 (by decide) ?_
    refine wp_iconst dX8_either2_15 (by decide) ?_
    refine wp_callV0 (d' := d - 1) cv_RX8_200 69 rfl [(0, 111), (0, 114), (0, 0), (0, 0), (0, 0), (0, 0), (0, 0), (0, 0)] [] rfl rfl (Or.inl ⟨_, _, rfl, by decide, rfl, by omega, by omega⟩) (by omega) (Nat.le_of_ble_eq_true rfl) dX8_either2_16 rfl (Nat.le_of_ble_eq_true rfl) (by omega) (loc1 := [(2, 69), (0, 111), (0, 114), (0, 0), (0, 0), (0, 0), (0, 0), (0, 0), (0, 0)]) rfl ?_
    refine sp_isWm_3 hn (by omega) hJ hx (fun t1 => absurd t1 (by rw [lxT_end (by omega)]; decide)) (fun t1 => ?_)
    refine wp_if_eq (tgt := 48) dX8_either2_19 (by decide) (fun _ => ?_) (fun h => absurd h (by decide))
    refine wp_iload_n dX8_either2_48 rfl rfl ?_
    refine wp_iret rfl dX8_either2_49 ?_
    exact k _ _ ⟨Fr.rf, hJ, hv⟩
  | succ m ih =>
    intro x ce vl v u2 M0 Q hm hJ hx hv k
    refine wp_aload_n dX8_either2_5 rfl rfl ?_
    refine wp_bipush dX8_either2_6 (by decide) (by decide) ?_
    refine wp_bipush dX8_either2_8 (by decide) (by decide) ?_
    refine wp_iconst dX8_either2_10 (by decide) ?_
    refine wp_iconst dX8_either2_11 (by decide) ?_
    refine wp_iconst dX8_either2_12 (by decide) ?_
    refine wp_iconst dX8_either2_13 (by decide) ?_
    refine wp_iconst dX8_either2_14 (by decide) ?_
    refine wp_iconst dX8_either2_15 (by decide) ?_
    refine wp_callV0 (d' := d - 1) cv_RX8_200 69 rfl [(0, 111), (0, 114), (0, 0), (0, 0), (0, 0), (0, 0), (0, 0), (0, 0)] [] rfl rfl (Or.inl ⟨_, _, rfl, by decide, rfl, by omega, by omega⟩) (by omega) (Nat.le_of_ble_eq_true rfl) dX8_either2_16 rfl (Nat.le_of_ble_eq_true rfl) (by omega) (loc1 := [(2, 69), (0, 111), (0, 114), (0, 0), (0, 0), (0, 0), (0, 0), (0, 0), (0, 0)]) rfl ?_
    refine sp_isWm_3 hn (by omega) hJ hx (fun t1 => ?_) (fun t1 => ?_)
    · refine wp_if_eq (tgt := 48) dX8_either2_19 (by decide) (fun h => absurd h (by decide)) (fun _ => ?_)
      refine wp_aload_n dX8_either2_22 rfl rfl ?_
      refine wp_callV0 (d' := d - 1) cv_RX8_197 69 rfl [] [] rfl rfl (Or.inl ⟨_, _, rfl, by decide, rfl, by omega, by omega⟩) (by omega) (Nat.le_of_ble_eq_true rfl) dX8_either2_23 rfl (Nat.le_of_ble_eq_true rfl) (by omega) (loc1 := [(2, 69), (9, 0), (9, 0)]) rfl ?_
      refine sp_next hn (by omega) hB (hJ).1 ((hJ).2.1.2.1 ((hJ).2.1.2.2.ne4 (by omega))) (lxN_le hx).1 (fun M2 f2 l2 => ?_)
      have J2 := (hJ).step f2 l2
      have F2 := ((Fr.rf : Fr VMr M0 M0)).tr (f2.mono VM1.r)
      have X2 := lxN_le (f := f) hx
      have Y2 := lxA_le (f := f) hx
      refine wp_aload_n dX8_either2_26 rfl rfl ?_
      refine wp_callV0 (d' := d - 1) cv_RX8_303 69 rfl [] [] rfl rfl (Or.inl ⟨_, _, rfl, by decide, rfl, by omega, by omega⟩) (by omega) (Nat.le_of_ble_eq_true rfl) dX8_either2_27 rfl (Nat.le_of_ble_eq_true rfl) (by omega) (loc1 := [(2, 69), (9, 0), (9, 0)]) rfl ?_
      refine hs _ _ _ _ (by omega) J2 X2.1 (fun M3 w3 q3 => ?_)
      obtain ⟨f3, q3⟩ := q3
      have F3 := (F2).tr f3
      have b3 := hq _ X2.1
      generalize r3 : P (lxN f z x) = u3 at q3 b3
      rcases u3 with p3 | ⟨y3, c3, v3⟩
      · have D3 : DJm M3 t f z p3 o e := q3
        refine wp_istore_n (loc' := [(2, 69), (0, v), (0, w3)]) dX8_either2_30 rfl (Nat.le_of_ble_eq_true rfl) rfl ?_
        refine wp_iload_n dX8_either2_31 rfl rfl ?_
        refine wp_if_ne (tgt := 39) dX8_either2_32 (by decide) (fun h32 => ?_) (fun h32 => ?_)
        · refine wp_iconst dX8_either2_39 (by decide) ?_
          refine wp_goto (tgt := 44) dX8_either2_40 (by decide) ?_
          refine wp_istore_n (loc' := [(2, 69), (0, 1), (0, w3)]) dX8_either2_44 rfl (Nat.le_of_ble_eq_true rfl) rfl ?_
          refine wp_goto (tgt := 5) dX8_either2_45 (by decide) ?_
          have eo : opO (lxT f z x) = -7 := if_pos t1
          have ee : gL f z opO P (m + 1) x ce vl = pbd (P (lxN f z x)) (fun y c' v' => gL f z opO P m y (ce ++ c' ++ [opO (lxT f z x)]) (fun e => jn (opO (lxT f z x)) (vl e) (v' e))) := if_neg (by rw [eo]; decide)
          rw [ee, r3] at k
          exact lqd_either2 hn (by omega) (D3) (fun M9 w9 f9 d9 => k M9 w9 ⟨(F3).tr f9, d9⟩)
        · refine wp_iload_n dX8_either2_35 rfl rfl ?_
          refine wp_if_eq (tgt := 43) dX8_either2_36 (by decide) (fun h36 => ?_) (fun h36 => ?_)
          · refine wp_iconst dX8_either2_43 (by decide) ?_
            refine wp_istore_n (loc' := [(2, 69), (0, 0), (0, w3)]) dX8_either2_44 rfl (Nat.le_of_ble_eq_true rfl) rfl ?_
            refine wp_goto (tgt := 5) dX8_either2_45 (by decide) ?_
            have eo : opO (lxT f z x) = -7 := if_pos t1
            have ee : gL f z opO P (m + 1) x ce vl = pbd (P (lxN f z x)) (fun y c' v' => gL f z opO P m y (ce ++ c' ++ [opO (lxT f z x)]) (fun e => jn (opO (lxT f z x)) (vl e) (v' e))) := if_neg (by rw [eo]; decide)
            rw [ee, r3] at k
            exact lqd_either2 hn (by omega) (D3) (fun M9 w9 f9 d9 => k M9 w9 ⟨(F3).tr f9, d9⟩)
          · refine wp_iconst dX8_either2_39 (by decide) ?_
            refine wp_goto (tgt := 44) dX8_either2_40 (by decide) ?_
            refine wp_istore_n (loc' := [(2, 69), (0, 1), (0, w3)]) dX8_either2_44 rfl (Nat.le_of_ble_eq_true rfl) rfl ?_
            refine wp_goto (tgt := 5) dX8_either2_45 (by decide) ?_
            have eo : opO (lxT f z x) = -7 := if_pos t1
            have ee : gL f z opO P (m + 1) x ce vl = pbd (P (lxN f z x)) (fun y c' v' => gL f z opO P m y (ce ++ c' ++ [opO (lxT f z x)]) (fun e => jn (opO (lxT f z x)) (vl e) (v' e))) := if_neg (by rw [eo]; decide)
            rw [ee, r3] at k
            exact lqd_either2 hn (by omega) (D3) (fun M9 w9 f9 d9 => k M9 w9 ⟨(F3).tr f9, d9⟩)
      · obtain ⟨J3, e3⟩ : RJm M3 t f z y3 o e ∧ w3 = v3 e := q3
        obtain ⟨b3, B3, _⟩ : (lxN f z x) + c3.length ≤ y3 ∧ (y3 : Int) ≤ z ∧ _ := b3
        refine wp_istore_n (loc' := [(2, 69), (0, v), (0, w3)]) dX8_either2_30 rfl (Nat.le_of_ble_eq_true rfl) rfl ?_
        refine wp_iload_n dX8_either2_31 rfl rfl ?_
        refine wp_if_ne (tgt := 39) dX8_either2_32 (by decide) (fun h32 => ?_) (fun h32 => ?_)
        · refine wp_iconst dX8_either2_39 (by decide) ?_
          refine wp_goto (tgt := 44) dX8_either2_40 (by decide) ?_
          refine wp_istore_n (loc' := [(2, 69), (0, 1), (0, w3)]) dX8_either2_44 rfl (Nat.le_of_ble_eq_true rfl) rfl ?_
          refine wp_goto (tgt := 5) dX8_either2_45 (by decide) ?_
          have eo : opO (lxT f z x) = -7 := if_pos t1
          have ee : gL f z opO P (m + 1) x ce vl = pbd (P (lxN f z x)) (fun y c' v' => gL f z opO P m y (ce ++ c' ++ [opO (lxT f z x)]) (fun e => jn (opO (lxT f z x)) (vl e) (v' e))) := if_neg (by rw [eo]; decide)
          rw [ee, r3] at k
          have hv2 : 1 = jn (opO (lxT f z x)) (vl e) (v3 e) := by
            rw [eo, ← hv, ← e3, jn7]
            first | exact (if_pos (by omega)).symm | exact (if_neg (by omega)).symm
          have hg := X2.2.2 (by omega)
          exact ih y3 _ (fun e => jn (opO (lxT f z x)) (vl e) (v3 e)) _ _ _ Q (by omega) J3 B3 hv2 (fun M9 w9 q9 => k M9 w9 ⟨(F3).tr q9.1, q9.2⟩)
        · refine wp_iload_n dX8_either2_35 rfl rfl ?_
          refine wp_if_eq (tgt := 43) dX8_either2_36 (by decide) (fun h36 => ?_) (fun h36 => ?_)
          · refine wp_iconst dX8_either2_43 (by decide) ?_
            refine wp_istore_n (loc' := [(2, 69), (0, 0), (0, w3)]) dX8_either2_44 rfl (Nat.le_of_ble_eq_true rfl) rfl ?_
            refine wp_goto (tgt := 5) dX8_either2_45 (by decide) ?_
            have eo : opO (lxT f z x) = -7 := if_pos t1
            have ee : gL f z opO P (m + 1) x ce vl = pbd (P (lxN f z x)) (fun y c' v' => gL f z opO P m y (ce ++ c' ++ [opO (lxT f z x)]) (fun e => jn (opO (lxT f z x)) (vl e) (v' e))) := if_neg (by rw [eo]; decide)
            rw [ee, r3] at k
            have hv2 : 0 = jn (opO (lxT f z x)) (vl e) (v3 e) := by
              rw [eo, ← hv, ← e3, jn7]
              first | exact (if_pos (by omega)).symm | exact (if_neg (by omega)).symm
            have hg := X2.2.2 (by omega)
            exact ih y3 _ (fun e => jn (opO (lxT f z x)) (vl e) (v3 e)) _ _ _ Q (by omega) J3 B3 hv2 (fun M9 w9 q9 => k M9 w9 ⟨(F3).tr q9.1, q9.2⟩)
          · refine wp_iconst dX8_either2_39 (by decide) ?_
            refine wp_goto (tgt := 44) dX8_either2_40 (by decide) ?_
            refine wp_istore_n (loc' := [(2, 69), (0, 1), (0, w3)]) dX8_either2_44 rfl (Nat.le_of_ble_eq_true rfl) rfl ?_
            refine wp_goto (tgt := 5) dX8_either2_45 (by decide) ?_
            have eo : opO (lxT f z x) = -7 := if_pos t1
            have ee : gL f z opO P (m + 1) x ce vl = pbd (P (lxN f z x)) (fun y c' v' => gL f z opO P m y (ce ++ c' ++ [opO (lxT f z x)]) (fun e => jn (opO (lxT f z x)) (vl e) (v' e))) := if_neg (by rw [eo]; decide)
            rw [ee, r3] at k
            have hv2 : 1 = jn (opO (lxT f z x)) (vl e) (v3 e) := by
              rw [eo, ← hv, ← e3, jn7]
              first | exact (if_pos (by omega)).symm | exact (if_neg (by omega)).symm
            have hg := X2.2.2 (by omega)
            exact ih y3 _ (fun e => jn (opO (lxT f z x)) (vl e) (v3 e)) _ _ _ Q (by omega) J3 B3 hv2 (fun M9 w9 q9 => k M9 w9 ⟨(F3).tr q9.1, q9.2⟩)
    · refine wp_if_eq (tgt := 48) dX8_either2_19 (by decide) (fun _ => ?_) (fun h => absurd h (by decide))
      refine wp_iload_n dX8_either2_48 rfl rfl ?_
      refine wp_iret rfl dX8_either2_49 ?_
      have ee : gL f z opO P (m + 1) x ce vl = .inr (x, ce, vl) := if_pos (show opO (lxT f z x) = 0 from if_neg t1)
      rw [ee] at k
      exact k _ _ ⟨Fr.rf, hJ, hv⟩
set_option maxRecDepth 20000 in
set_option maxHeartbeats 4000000 in
theorem cm_either2 {l : Launch} {g : Gw} {n : Nat} (hn : 90 ≤ n) {t : Nat} {f : Nat → Int} {z : Int} {e : Int → Int} {B : Nat} (hB8 : 12 ≤ B) (hB : BT f z) {o : Int} {P : Nat → PR} (hs : CMm l g n t f z e m_X8_both2 [(9, 0), (9, 0)] B o P) (hq : ∀ x : Nat, (x : Int) ≤ z → PQ z x (P x)) : CMm l g n t f z e m_X8_either2 [(9, 0), (9, 0)] (B + 1) o (gBn f z opO 160 P) := by
  intro d M0 Q x hd hJ hx k
  have hz1 := hJ.1.2.2.2.2.2.1
  refine wp_aload_n dX8_either2_0 rfl rfl ?_
  refine wp_callV0 (d' := d - 1) cv_RX8_303 69 rfl [] [] rfl rfl (Or.inl ⟨_, _, rfl, by decide, rfl, by omega, by omega⟩) (by omega) (Nat.le_of_ble_eq_true rfl) dX8_either2_1 rfl (Nat.le_of_ble_eq_true rfl) (by omega) (loc1 := [(2, 69), (9, 0), (9, 0)]) rfl ?_
  refine hs _ _ _ _ (by omega) hJ hx (fun M1 w1 q1 => ?_)
  obtain ⟨f1, q1⟩ := q1
  have F1 := ((Fr.rf : Fr VMr M0 M0)).tr f1
  have b1 := hq _ hx
  generalize r1 : P x = u1 at q1 b1
  rcases u1 with p1 | ⟨y1, c1, v1⟩
  · have D1 : DJm M1 t f z p1 o e := q1
    refine wp_istore_n (loc' := [(2, 69), (0, w1), (9, 0)]) dX8_either2_4 rfl (Nat.le_of_ble_eq_true rfl) rfl ?_
    have ee : gBn f z opO 160 P x = pbd (P x) (fun y c v => gL f z opO P 160 y c v) := rfl
    rw [ee, r1] at k
    exact lqd_either2 hn (by omega) (D1) (fun M9 w9 f9 d9 => k M9 w9 ⟨(F1).tr f9, d9⟩)
  · obtain ⟨J1, e1⟩ : RJm M1 t f z y1 o e ∧ w1 = v1 e := q1
    obtain ⟨b1, B1, _⟩ : x + c1.length ≤ y1 ∧ (y1 : Int) ≤ z ∧ _ := b1
    refine wp_istore_n (loc' := [(2, 69), (0, w1), (9, 0)]) dX8_either2_4 rfl (Nat.le_of_ble_eq_true rfl) rfl ?_
    have ee : gBn f z opO 160 P x = pbd (P x) (fun y c v => gL f z opO P 160 y c v) := rfl
    rw [ee, r1] at k
    exact lq_either2 hn hB8 hB hs hq hd 160 y1 c1 v1 w1 _ _ Q (by omega) J1 B1 e1 (fun M9 w9 q9 => k M9 w9 ⟨(F1).tr q9.1, q9.2⟩)
set_option maxRecDepth 20000 in
set_option maxHeartbeats 4000000 in
theorem cm_atom2 {l : Launch} {g : Gw} {n : Nat} (hn : 90 ≤ n) {t : Nat} {f : Nat → Int} {z : Int} {e : Int → Int} {B : Nat} (hB8 : 12 ≤ B) (hB : BT f z) {o : Int} (ho : 0 ≤ o ∧ o < 5) {q : P3} (hq : OK3 z q) (hs1 : CMm l g n t f z e m_X8_atom3 [(9, 0)] B (o + 1) q.1) (hs3 : CMm l g n t f z e m_X8_either3 [(9, 0), (9, 0)] B (o + 1) q.2.2) : CMm l g n t f z e m_X8_atom2 [(9, 0)] (B + 1) o (oneP f z (some q)) := by
  intro d M0 Q x hd hJ hx k
  have hz1 := hJ.1.2.2.2.2.2.1
  refine wp_iconst dX8_atom2_0 (by decide) ?_
  refine wp_istore_n (loc' := [(2, 69), (0, 0)]) dX8_atom2_1 rfl (Nat.le_of_ble_eq_true rfl) rfl ?_
  refine wp_aload_n dX8_atom2_2 rfl rfl ?_
  refine wp_bipush dX8_atom2_3 (by decide) (by decide) ?_
  refine wp_callV0 (d' := d - 1) cv_RX8_222 69 rfl [(0, 45)] [] rfl rfl (Or.inl ⟨_, _, rfl, by decide, rfl, by omega, by omega⟩) (by omega) (Nat.le_of_ble_eq_true rfl) dX8_atom2_5 rfl (Nat.le_of_ble_eq_true rfl) (by omega) (loc1 := [(2, 69), (0, 45)]) rfl ?_
  refine sp_isSg hn hJ 45 (by decide) (fun t1 => ?_) (fun t1 => ?_)
  · have g1 := ((hJ).2.1.2.2.sgn (s := 45) (by decide)).mpr t1
    refine wp_if_eq (tgt := 37) dX8_atom2_8 (by decide) (fun h => absurd h (by decide)) (fun _ => ?_)
    refine wp_aload_n dX8_atom2_11 rfl rfl ?_
    refine wp_callV0 (d' := d - 1) cv_RX8_225 69 rfl [] [] rfl rfl (Or.inl ⟨_, _, rfl, by decide, rfl, by omega, by omega⟩) (by omega) (Nat.le_of_ble_eq_true rfl) dX8_atom2_12 rfl (Nat.le_of_ble_eq_true rfl) (by omega) (loc1 := [(2, 69)]) rfl ?_
    refine sp_opensm hn (by omega) hB hJ hx ho (by omega) (fun M2 J2 f2 => ?_)
    have F2 := ((Fr.rf : Fr VMr M0 M0)).tr f2
    have X2 := lxN_le (f := f) hx
    have Y2 := lxA_le (f := f) hx
    refine wp_if_eq (tgt := 161) dX8_atom2_15 (by decide) (fun h => absurd h (by decide)) (fun _ => ?_)
    refine wp_aload_n dX8_atom2_18 rfl rfl ?_
    refine wp_callV0 (d' := d - 1) cv_RX8_273 69 rfl [] [] rfl rfl (Or.inl ⟨_, _, rfl, by decide, rfl, by omega, by omega⟩) (by omega) (Nat.le_of_ble_eq_true rfl) dX8_atom2_19 rfl (Nat.le_of_ble_eq_true rfl) (by omega) (loc1 := [(2, 69), (9, 0)]) rfl ?_
    refine hs1 _ _ _ _ (by omega) J2 X2.1 (fun M3 w3 q3 => ?_)
    obtain ⟨f3, q3⟩ := q3
    have F3 := (F2).tr f3
    have b3 := hq.1 _ X2.1
    generalize r3 : q.1 (lxN f z x) = u3 at q3 b3
    rcases u3 with p3 | ⟨y3, c3, v3⟩
    · have D3 : DJm M3 t f z p3 (o + 1) e := q3
      refine wp_ineg dX8_atom2_22 ?_
      refine wp_istore_n (loc' := [(2, 69), (0, (wrap (-w3)))]) dX8_atom2_23 rfl (Nat.le_of_ble_eq_true rfl) rfl ?_
      refine wp_aload_n dX8_atom2_24 rfl rfl ?_
      refine wp_dup dX8_atom2_25 (Or.inr rfl) ?_
      refine wp_get 69 rfl fl_RX8_191 rfl ⟨by omega, by omega⟩ dX8_atom2_26 rfl (v := (o + 1)) (D3.2.1) ?_
      refine wp_iconst dX8_atom2_29 (by decide) ?_
      refine wp_isub dX8_atom2_30 (by omega) ?_
      refine wp_puti 69 rfl fl_RX8_191 rfl ⟨by omega, by omega⟩ dX8_atom2_31 rfl rfl ?_
      refine wp_goto (tgt := 161) dX8_atom2_34 (by decide) ?_
      refine wp_iload_n dX8_atom2_161 rfl rfl ?_
      refine wp_iret rfl dX8_atom2_162 ?_
      have J4 := (D3).opn (show ((o + 1) - 1) = o by omega)
      have B4 : Fr VMr M0 (mu M3 69 25 ((o + 1) - 1)) := (F3).tr fm25
      generalize (mu M3 69 25 ((o + 1) - 1)) = N4 at J4 B4 ⊢
      have ee : oneP f z (some q) x = pbd (q.1 (lxN f z x)) (fun y c v => .inr (y, c ++ [-15], fun e => wrap (-(v e)))) := (if_neg (by omega)).trans ((if_neg (by omega)).trans (if_pos t1))
      rw [ee, r3] at k
      exact k _ _ ⟨B4, J4⟩
    · obtain ⟨J3, e3⟩ : RJm M3 t f z y3 (o + 1) e ∧ w3 = v3 e := q3
      obtain ⟨b3, B3, _⟩ : (lxN f z x) + c3.length ≤ y3 ∧ (y3 : Int) ≤ z ∧ _ := b3
      refine wp_ineg dX8_atom2_22 ?_
      refine wp_istore_n (loc' := [(2, 69), (0, (wrap (-w3)))]) dX8_atom2_23 rfl (Nat.le_of_ble_eq_true rfl) rfl ?_
      refine wp_aload_n dX8_atom2_24 rfl rfl ?_
      refine wp_dup dX8_atom2_25 (Or.inr rfl) ?_
      refine wp_get 69 rfl fl_RX8_191 rfl ⟨by omega, by omega⟩ dX8_atom2_26 rfl (v := (o + 1)) (J3.2.2.1) ?_
      refine wp_iconst dX8_atom2_29 (by decide) ?_
      refine wp_isub dX8_atom2_30 (by omega) ?_
      refine wp_puti 69 rfl fl_RX8_191 rfl ⟨by omega, by omega⟩ dX8_atom2_31 rfl rfl ?_
      refine wp_goto (tgt := 161) dX8_atom2_34 (by decide) ?_
      refine wp_iload_n dX8_atom2_161 rfl rfl ?_
      refine wp_iret rfl dX8_atom2_162 ?_
      have J5 := (J3).opn (show ((o + 1) - 1) = o by omega)
      have B5 : Fr VMr M0 (mu M3 69 25 ((o + 1) - 1)) := (F3).tr fm25
      generalize (mu M3 69 25 ((o + 1) - 1)) = N5 at J5 B5 ⊢
      have ee : oneP f z (some q) x = pbd (q.1 (lxN f z x)) (fun y c v => .inr (y, c ++ [-15], fun e => wrap (-(v e)))) := (if_neg (by omega)).trans ((if_neg (by omega)).trans (if_pos t1))
      rw [ee, r3] at k
      exact k _ _ ⟨B5, J5, by rw [e3]⟩
  · refine wp_if_eq (tgt := 37) dX8_atom2_8 (by decide) (fun _ => ?_) (fun h => absurd h (by decide))
    refine wp_aload_n dX8_atom2_37 rfl rfl ?_
    refine wp_bipush dX8_atom2_38 (by decide) (by decide) ?_
    refine wp_callV0 (d' := d - 1) cv_RX8_222 69 rfl [(0, 40)] [] rfl rfl (Or.inl ⟨_, _, rfl, by decide, rfl, by omega, by omega⟩) (by omega) (Nat.le_of_ble_eq_true rfl) dX8_atom2_40 rfl (Nat.le_of_ble_eq_true rfl) (by omega) (loc1 := [(2, 69), (0, 40)]) rfl ?_
    refine sp_isSg hn hJ 40 (by decide) (fun t6 => ?_) (fun t6 => ?_)
    · have g6 := ((hJ).2.1.2.2.sgn (s := 40) (by decide)).mpr t6
      refine wp_if_eq (tgt := 95) dX8_atom2_43 (by decide) (fun h => absurd h (by decide)) (fun _ => ?_)
      refine wp_aload_n dX8_atom2_46 rfl rfl ?_
      refine wp_callV0 (d' := d - 1) cv_RX8_225 69 rfl [] [] rfl rfl (Or.inl ⟨_, _, rfl, by decide, rfl, by omega, by omega⟩) (by omega) (Nat.le_of_ble_eq_true rfl) dX8_atom2_47 rfl (Nat.le_of_ble_eq_true rfl) (by omega) (loc1 := [(2, 69)]) rfl ?_
      refine sp_opensm hn (by omega) hB hJ hx ho (by omega) (fun M7 J7 f7 => ?_)
      have F7 := ((Fr.rf : Fr VMr M0 M0)).tr f7
      have X7 := lxN_le (f := f) hx
      have Y7 := lxA_le (f := f) hx
      refine wp_if_eq (tgt := 161) dX8_atom2_50 (by decide) (fun h => absurd h (by decide)) (fun _ => ?_)
      refine wp_aload_n dX8_atom2_53 rfl rfl ?_
      refine wp_callV0 (d' := d - 1) cv_RX8_288 69 rfl [] [] rfl rfl (Or.inl ⟨_, _, rfl, by decide, rfl, by omega, by omega⟩) (by omega) (Nat.le_of_ble_eq_true rfl) dX8_atom2_54 rfl (Nat.le_of_ble_eq_true rfl) (by omega) (loc1 := [(2, 69), (9, 0), (9, 0)]) rfl ?_
      refine hs3 _ _ _ _ (by omega) J7 X7.1 (fun M8 w8 q8 => ?_)
      obtain ⟨f8, q8⟩ := q8
      have F8 := (F7).tr f8
      have b8 := hq.2.2 _ X7.1
      generalize r8 : q.2.2 (lxN f z x) = u8 at q8 b8
      rcases u8 with p8 | ⟨y8, c8, v8⟩
      · have D8 : DJm M8 t f z p8 (o + 1) e := q8
        refine wp_istore_n (loc' := [(2, 69), (0, w8)]) dX8_atom2_57 rfl (Nat.le_of_ble_eq_true rfl) rfl ?_
        refine wp_aload_n dX8_atom2_58 rfl rfl ?_
        refine wp_bipush dX8_atom2_59 (by decide) (by decide) ?_
        refine wp_callV0 (d' := d - 1) cv_RX8_222 69 rfl [(0, 41)] [] rfl rfl (Or.inl ⟨_, _, rfl, by decide, rfl, by omega, by omega⟩) (by omega) (Nat.le_of_ble_eq_true rfl) dX8_atom2_61 rfl (Nat.le_of_ble_eq_true rfl) (by omega) (loc1 := [(2, 69), (0, 41)]) rfl ?_
        refine sp_isSd hn D8 ?_
        refine wp_if_ne (tgt := 71) dX8_atom2_64 (by decide) (fun h => absurd h (by decide)) (fun _ => ?_)
        refine wp_aload_n dX8_atom2_67 rfl rfl ?_
        refine wp_callV0 (d' := d - 1) cv_RX8_194 69 rfl [] [] rfl rfl (Or.inl ⟨_, _, rfl, by decide, rfl, by omega, by omega⟩) (by omega) (Nat.le_of_ble_eq_true rfl) dX8_atom2_68 rfl (Nat.le_of_ble_eq_true rfl) (by omega) (loc1 := [(2, 69)]) rfl ?_
        refine sp_failmD hn D8 ?_
        refine wp_aload_n dX8_atom2_71 rfl rfl ?_
        refine wp_dup dX8_atom2_72 (Or.inr rfl) ?_
        refine wp_get 69 rfl fl_RX8_191 rfl ⟨by omega, by omega⟩ dX8_atom2_73 rfl (v := (o + 1)) (D8.2.1) ?_
        refine wp_iconst dX8_atom2_76 (by decide) ?_
        refine wp_isub dX8_atom2_77 (by omega) ?_
        refine wp_puti 69 rfl fl_RX8_191 rfl ⟨by omega, by omega⟩ dX8_atom2_78 rfl rfl ?_
        refine wp_aload_n dX8_atom2_81 rfl rfl ?_
        refine wp_get 69 rfl fl_RX8_181 rfl ⟨by omega, by omega⟩ dX8_atom2_82 rfl (v := 1) (D8.2.2.1) ?_
        refine wp_if_ne (tgt := 161) dX8_atom2_85 (by decide) (fun _ => ?_) (fun h => absurd h (by decide))
        refine wp_iload_n dX8_atom2_161 rfl rfl ?_
        refine wp_iret rfl dX8_atom2_162 ?_
        have J11 := (D8).opn (show ((o + 1) - 1) = o by omega)
        have B11 : Fr VMr M0 (mu M8 69 25 ((o + 1) - 1)) := (F8).tr fm25
        generalize (mu M8 69 25 ((o + 1) - 1)) = N11 at J11 B11 ⊢
        have ee : oneP f z (some q) x = pbd (q.2.2 (lxN f z x)) (fun y c v => if lxT f z y = 41 then .inr (lxN f z y, c, v) else .inl (lxA f z y)) := (if_neg (by omega)).trans ((if_neg (by omega)).trans ((if_neg t1).trans (if_pos t6)))
        rw [ee, r8] at k
        exact k _ _ ⟨B11, J11⟩
      · obtain ⟨J8, e8⟩ : RJm M8 t f z y8 (o + 1) e ∧ w8 = v8 e := q8
        obtain ⟨b8, B8, _⟩ : (lxN f z x) + c8.length ≤ y8 ∧ (y8 : Int) ≤ z ∧ _ := b8
        refine wp_istore_n (loc' := [(2, 69), (0, w8)]) dX8_atom2_57 rfl (Nat.le_of_ble_eq_true rfl) rfl ?_
        refine wp_aload_n dX8_atom2_58 rfl rfl ?_
        refine wp_bipush dX8_atom2_59 (by decide) (by decide) ?_
        refine wp_callV0 (d' := d - 1) cv_RX8_222 69 rfl [(0, 41)] [] rfl rfl (Or.inl ⟨_, _, rfl, by decide, rfl, by omega, by omega⟩) (by omega) (Nat.le_of_ble_eq_true rfl) dX8_atom2_61 rfl (Nat.le_of_ble_eq_true rfl) (by omega) (loc1 := [(2, 69), (0, 41)]) rfl ?_
        refine sp_isSg hn J8 41 (by decide) (fun t12 => ?_) (fun t12 => ?_)
        · have g12 := ((J8).2.1.2.2.sgn (s := 41) (by decide)).mpr t12
          refine wp_if_ne (tgt := 71) dX8_atom2_64 (by decide) (fun _ => ?_) (fun h => absurd h (by decide))
          refine wp_aload_n dX8_atom2_71 rfl rfl ?_
          refine wp_dup dX8_atom2_72 (Or.inr rfl) ?_
          refine wp_get 69 rfl fl_RX8_191 rfl ⟨by omega, by omega⟩ dX8_atom2_73 rfl (v := (o + 1)) (J8.2.2.1) ?_
          refine wp_iconst dX8_atom2_76 (by decide) ?_
          refine wp_isub dX8_atom2_77 (by omega) ?_
          refine wp_puti 69 rfl fl_RX8_191 rfl ⟨by omega, by omega⟩ dX8_atom2_78 rfl rfl ?_
          refine wp_aload_n dX8_atom2_81 rfl rfl ?_
          refine wp_get 69 rfl fl_RX8_181 rfl ⟨by omega, by omega⟩ dX8_atom2_82 rfl (v := 0) (J8.2.2.2.1) ?_
          refine wp_if_ne (tgt := 161) dX8_atom2_85 (by decide) (fun h => absurd h (by decide)) (fun _ => ?_)
          refine wp_aload_n dX8_atom2_88 rfl rfl ?_
          refine wp_callV0 (d' := d - 1) cv_RX8_197 69 rfl [] [] rfl rfl (Or.inl ⟨_, _, rfl, by decide, rfl, by omega, by omega⟩) (by omega) (Nat.le_of_ble_eq_true rfl) dX8_atom2_89 rfl (Nat.le_of_ble_eq_true rfl) (by omega) (loc1 := [(2, 69), (9, 0), (9, 0)]) rfl ?_
          have J13 := (J8).opn (show ((o + 1) - 1) = o by omega)
          have B13 : Fr VMr M0 (mu M8 69 25 ((o + 1) - 1)) := (F8).tr fm25
          generalize (mu M8 69 25 ((o + 1) - 1)) = N13 at J13 B13 ⊢
          refine sp_next hn (by omega) hB (J13).1 ((J13).2.1.2.1 ((J13).2.1.2.2.ne4 (by omega))) (lxN_le B8).1 (fun M14 f14 l14 => ?_)
          have J14 := (J13).step f14 l14
          have F14 := (B13).tr (f14.mono VM1.r)
          have X14 := lxN_le (f := f) B8
          have Y14 := lxA_le (f := f) B8
          refine wp_goto (tgt := 161) dX8_atom2_92 (by decide) ?_
          refine wp_iload_n dX8_atom2_161 rfl rfl ?_
          refine wp_iret rfl dX8_atom2_162 ?_
          have ee : oneP f z (some q) x = pbd (q.2.2 (lxN f z x)) (fun y c v => if lxT f z y = 41 then .inr (lxN f z y, c, v) else .inl (lxA f z y)) := (if_neg (by omega)).trans ((if_neg (by omega)).trans ((if_neg t1).trans (if_pos t6)))
          rw [ee, r8] at k
          replace k : ∀ M' w, PoM M0 t f z o e (if lxT f z y8 = 41 then .inr (lxN f z y8, c8, v8) else .inl (lxA f z y8)) M' w → Q (some (0, w)) M' := k
          rw [if_pos t12] at k
          exact k _ _ ⟨F14, J14, e8⟩
        · refine wp_if_ne (tgt := 71) dX8_atom2_64 (by decide) (fun h => absurd h (by decide)) (fun _ => ?_)
          refine wp_aload_n dX8_atom2_67 rfl rfl ?_
          refine wp_callV0 (d' := d - 1) cv_RX8_194 69 rfl [] [] rfl rfl (Or.inl ⟨_, _, rfl, by decide, rfl, by omega, by omega⟩) (by omega) (Nat.le_of_ble_eq_true rfl) dX8_atom2_68 rfl (Nat.le_of_ble_eq_true rfl) (by omega) (loc1 := [(2, 69)]) rfl ?_
          refine sp_failm hn J8 (fun M15 D15 f15 => ?_)
          have F15 := (F8).tr f15
          refine wp_aload_n dX8_atom2_71 rfl rfl ?_
          refine wp_dup dX8_atom2_72 (Or.inr rfl) ?_
          refine wp_get 69 rfl fl_RX8_191 rfl ⟨by omega, by omega⟩ dX8_atom2_73 rfl (v := (o + 1)) (D15.2.1) ?_
          refine wp_iconst dX8_atom2_76 (by decide) ?_
          refine wp_isub dX8_atom2_77 (by omega) ?_
          refine wp_puti 69 rfl fl_RX8_191 rfl ⟨by omega, by omega⟩ dX8_atom2_78 rfl rfl ?_
          refine wp_aload_n dX8_atom2_81 rfl rfl ?_
          refine wp_get 69 rfl fl_RX8_181 rfl ⟨by omega, by omega⟩ dX8_atom2_82 rfl (v := 1) (D15.2.2.1) ?_
          refine wp_if_ne (tgt := 161) dX8_atom2_85 (by decide) (fun _ => ?_) (fun h => absurd h (by decide))
          refine wp_iload_n dX8_atom2_161 rfl rfl ?_
          refine wp_iret rfl dX8_atom2_162 ?_
          have J16 := (D15).opn (show ((o + 1) - 1) = o by omega)
          have B16 : Fr VMr M0 (mu M15 69 25 ((o + 1) - 1)) := (F15).tr fm25
          generalize (mu M15 69 25 ((o + 1) - 1)) = N16 at J16 B16 ⊢
          have ee : oneP f z (some q) x = pbd (q.2.2 (lxN f z x)) (fun y c v => if lxT f z y = 41 then .inr (lxN f z y, c, v) else .inl (lxA f z y)) := (if_neg (by omega)).trans ((if_neg (by omega)).trans ((if_neg t1).trans (if_pos t6)))
          rw [ee, r8] at k
          replace k : ∀ M' w, PoM M0 t f z o e (if lxT f z y8 = 41 then .inr (lxN f z y8, c8, v8) else .inl (lxA f z y8)) M' w → Q (some (0, w)) M' := k
          rw [if_neg t12] at k
          exact k _ _ ⟨B16, J16⟩
    · refine wp_if_eq (tgt := 95) dX8_atom2_43 (by decide) (fun _ => ?_) (fun h => absurd h (by decide))
      refine wp_aload_n dX8_atom2_95 rfl rfl ?_
      refine wp_get 69 rfl fl_RX8_181 rfl ⟨by omega, by omega⟩ dX8_atom2_96 rfl (v := 0) (hJ.2.2.2.1) ?_
      refine wp_if_ne (tgt := 123) dX8_atom2_99 (by decide) (fun h => absurd h (by decide)) (fun _ => ?_)
      refine wp_aload_n dX8_atom2_102 rfl rfl ?_
      refine wp_get 69 rfl fl_RX8_164 rfl ⟨by omega, by omega⟩ dX8_atom2_103 rfl (v := (M0 69 22)) (rfl) ?_
      refine wp_iconst dX8_atom2_106 (by decide) ?_
      refine wp_icmp_ne (tgt := 123) dX8_atom2_107 (by decide) (fun h107 => ?_) (fun h107 => ?_)
      · refine wp_aload_n dX8_atom2_123 rfl rfl ?_
        refine wp_get 69 rfl fl_RX8_181 rfl ⟨by omega, by omega⟩ dX8_atom2_124 rfl (v := 0) (hJ.2.2.2.1) ?_
        refine wp_if_ne (tgt := 157) dX8_atom2_127 (by decide) (fun h => absurd h (by decide)) (fun _ => ?_)
        refine wp_aload_n dX8_atom2_130 rfl rfl ?_
        refine wp_get 69 rfl fl_RX8_164 rfl ⟨by omega, by omega⟩ dX8_atom2_131 rfl (v := (M0 69 22)) (rfl) ?_
        refine wp_iconst dX8_atom2_134 (by decide) ?_
        refine wp_icmp_ne (tgt := 157) dX8_atom2_135 (by decide) (fun h135 => ?_) (fun h135 => ?_)
        · refine wp_aload_n dX8_atom2_157 rfl rfl ?_
          refine wp_callV0 (d' := d - 1) cv_RX8_194 69 rfl [] [] rfl rfl (Or.inl ⟨_, _, rfl, by decide, rfl, by omega, by omega⟩) (by omega) (Nat.le_of_ble_eq_true rfl) dX8_atom2_158 rfl (Nat.le_of_ble_eq_true rfl) (by omega) (loc1 := [(2, 69)]) rfl ?_
          refine sp_failm hn hJ (fun M17 D17 f17 => ?_)
          have F17 := ((Fr.rf : Fr VMr M0 M0)).tr f17
          refine wp_iload_n dX8_atom2_161 rfl rfl ?_
          refine wp_iret rfl dX8_atom2_162 ?_
          have two := hJ.2.1.2.2.two
          have t2 : lxT f z x ≠ 2 := fun h => h107 (two.1.mpr h)
          have hw := hJ.2.1.2.2.word h135
          have ee : oneP f z (some q) x = .inl (lxA f z x) := (if_neg t2).trans ((if_neg (by omega)).trans ((if_neg t1).trans (if_neg t6)))
          rw [ee] at k
          exact k _ _ ⟨F17, D17⟩
        · refine wp_aload_n dX8_atom2_138 rfl rfl ?_
          refine wp_callV0 (d' := d - 1) cv_RX8_229 69 rfl [] [] rfl rfl (Or.inl ⟨_, _, rfl, by decide, rfl, by omega, by omega⟩) (by omega) (Nat.le_of_ble_eq_true rfl) dX8_atom2_139 rfl (Nat.le_of_ble_eq_true rfl) (by omega) (loc1 := [(2, 69)]) rfl ?_
          refine sp_name hn (by omega) hJ hx (fun hnm => ?_) (fun hnm M18 D18 f18 => ?_)
          · refine wp_istore_n (loc' := [(2, 69), (0, (e (-1 - (lxT f z x - 262))))]) dX8_atom2_142 rfl (Nat.le_of_ble_eq_true rfl) rfl ?_
            refine wp_aload_n dX8_atom2_143 rfl rfl ?_
            refine wp_get 69 rfl fl_RX8_181 rfl ⟨by omega, by omega⟩ dX8_atom2_144 rfl (v := 0) (hJ.2.2.2.1) ?_
            refine wp_if_ne (tgt := 161) dX8_atom2_147 (by decide) (fun h => absurd h (by decide)) (fun _ => ?_)
            refine wp_aload_n dX8_atom2_150 rfl rfl ?_
            refine wp_callV0 (d' := d - 1) cv_RX8_197 69 rfl [] [] rfl rfl (Or.inl ⟨_, _, rfl, by decide, rfl, by omega, by omega⟩) (by omega) (Nat.le_of_ble_eq_true rfl) dX8_atom2_151 rfl (Nat.le_of_ble_eq_true rfl) (by omega) (loc1 := [(2, 69), (9, 0), (9, 0)]) rfl ?_
            refine sp_next hn (by omega) hB (hJ).1 ((hJ).2.1.2.1 ((hJ).2.1.2.2.ne4 (by omega))) (lxN_le hx).1 (fun M19 f19 l19 => ?_)
            have J19 := (hJ).step f19 l19
            have F19 := ((Fr.rf : Fr VMr M0 M0)).tr (f19.mono VM1.r)
            have X19 := lxN_le (f := f) hx
            have Y19 := lxA_le (f := f) hx
            refine wp_goto (tgt := 161) dX8_atom2_154 (by decide) ?_
            refine wp_iload_n dX8_atom2_161 rfl rfl ?_
            refine wp_iret rfl dX8_atom2_162 ?_
            have two := hJ.2.1.2.2.two
            have t2 : lxT f z x ≠ 2 := fun h => h107 (two.1.mpr h)
            have ee : oneP f z (some q) x = .inr (lxN f z x, [-1 - (lxT f z x - 262)], fun e => e (-1 - (lxT f z x - 262))) := (if_neg t2).trans (if_pos hnm)
            rw [ee] at k
            exact k _ _ ⟨F19, J19, rfl⟩
          · have F18 := ((Fr.rf : Fr VMr M0 M0)).tr f18
            refine wp_istore_n (loc' := [(2, 69), (0, 0)]) dX8_atom2_142 rfl (Nat.le_of_ble_eq_true rfl) rfl ?_
            refine wp_aload_n dX8_atom2_143 rfl rfl ?_
            refine wp_get 69 rfl fl_RX8_181 rfl ⟨by omega, by omega⟩ dX8_atom2_144 rfl (v := 1) (D18.2.2.1) ?_
            refine wp_if_ne (tgt := 161) dX8_atom2_147 (by decide) (fun _ => ?_) (fun h => absurd h (by decide))
            refine wp_iload_n dX8_atom2_161 rfl rfl ?_
            refine wp_iret rfl dX8_atom2_162 ?_
            have two := hJ.2.1.2.2.two
            have t2 : lxT f z x ≠ 2 := fun h => h107 (two.1.mpr h)
            have ee : oneP f z (some q) x = .inl (lxA f z x) := (if_neg t2).trans ((if_neg hnm).trans ((if_neg t1).trans (if_neg t6)))
            rw [ee] at k
            exact k _ _ ⟨F18, D18⟩
      · refine wp_aload_n dX8_atom2_110 rfl rfl ?_
        refine wp_get 69 rfl fl_RX8_175 rfl ⟨by omega, by omega⟩ dX8_atom2_111 rfl (v := (M0 69 24)) (rfl) ?_
        refine wp_l2i dX8_atom2_114 ?_
        refine wp_istore_n (loc' := [(2, 69), (0, (wrap (M0 69 24)))]) dX8_atom2_115 rfl (Nat.le_of_ble_eq_true rfl) rfl ?_
        refine wp_aload_n dX8_atom2_116 rfl rfl ?_
        refine wp_callV0 (d' := d - 1) cv_RX8_197 69 rfl [] [] rfl rfl (Or.inl ⟨_, _, rfl, by decide, rfl, by omega, by omega⟩) (by omega) (Nat.le_of_ble_eq_true rfl) dX8_atom2_117 rfl (Nat.le_of_ble_eq_true rfl) (by omega) (loc1 := [(2, 69), (9, 0), (9, 0)]) rfl ?_
        have t2 := hJ.2.1.2.2.two.1.mp h107
        refine sp_next hn (by omega) hB (hJ).1 ((hJ).2.1.2.1 ((hJ).2.1.2.2.ne4 (by omega))) (lxN_le hx).1 (fun M20 f20 l20 => ?_)
        have J20 := (hJ).step f20 l20
        have F20 := ((Fr.rf : Fr VMr M0 M0)).tr (f20.mono VM1.r)
        have X20 := lxN_le (f := f) hx
        have Y20 := lxA_le (f := f) hx
        refine wp_goto (tgt := 161) dX8_atom2_120 (by decide) ?_
        refine wp_iload_n dX8_atom2_161 rfl rfl ?_
        refine wp_iret rfl dX8_atom2_162 ?_
        have two := hJ.2.1.2.2.two
        have t2 := two.1.mp h107
        have ee : oneP f z (some q) x = .inr (lxN f z x, [lxV f z x], fun _ => lxV f z x) := if_pos t2
        rw [ee] at k
        have hv := lxV_r hx t2
        exact k _ _ ⟨F20, J20, by rw [two.2 h107, wrap_id (by omega)]⟩
set_option maxRecDepth 20000 in
set_option maxHeartbeats 4000000 in
theorem cm_not2 {l : Launch} {g : Gw} {n : Nat} (hn : 90 ≤ n) {t : Nat} {f : Nat → Int} {z : Int} {e : Int → Int} {B : Nat} (hB8 : 12 ≤ B) (hB : BT f z) {o : Int} (ho : 0 ≤ o ∧ o < 5) {q : P3} (hq : OK3 z q) (hs2 : CMm l g n t f z e m_X8_not3 [(9, 0), (9, 0), (9, 0)] B (o + 1) q.2.1) {P : Nat → PR} (hqc : ∀ x : Nat, (x : Int) ≤ z → PQ z x (P x)) (hc : CMm l g n t f z e m_X8_added2 [(9, 0), (9, 0), (9, 0)] B o P) : CMm l g n t f z e m_X8_not2 [(9, 0), (9, 0), (9, 0)] (B + 1) o (notP f z (some q) (gBn f z opC 1 P)) := by
  intro d M0 Q x hd hJ hx k
  have hz1 := hJ.1.2.2.2.2.2.1
  refine wp_aload_n dX8_not2_0 rfl rfl ?_
  refine wp_bipush dX8_not2_1 (by decide) (by decide) ?_
  refine wp_bipush dX8_not2_3 (by decide) (by decide) ?_
  refine wp_bipush dX8_not2_5 (by decide) (by decide) ?_
  refine wp_iconst dX8_not2_7 (by decide) ?_
  refine wp_iconst dX8_not2_8 (by decide) ?_
  refine wp_iconst dX8_not2_9 (by decide) ?_
  refine wp_iconst dX8_not2_10 (by decide) ?_
  refine wp_iconst dX8_not2_11 (by decide) ?_
  refine wp_callV0 (d' := d - 1) cv_RX8_200 69 rfl [(0, 110), (0, 111), (0, 116), (0, 0), (0, 0), (0, 0), (0, 0), (0, 0)] [] rfl rfl (Or.inl ⟨_, _, rfl, by decide, rfl, by omega, by omega⟩) (by omega) (Nat.le_of_ble_eq_true rfl) dX8_not2_12 rfl (Nat.le_of_ble_eq_true rfl) (by omega) (loc1 := [(2, 69), (0, 110), (0, 111), (0, 116), (0, 0), (0, 0), (0, 0), (0, 0), (0, 0)]) rfl ?_
  refine sp_isWm_5 hn (by omega) hJ hx (fun t1 => ?_) (fun t1 => ?_)
  · refine wp_if_eq (tgt := 52) dX8_not2_15 (by decide) (fun h => absurd h (by decide)) (fun _ => ?_)
    refine wp_aload_n dX8_not2_18 rfl rfl ?_
    refine wp_callV0 (d' := d - 1) cv_RX8_225 69 rfl [] [] rfl rfl (Or.inl ⟨_, _, rfl, by decide, rfl, by omega, by omega⟩) (by omega) (Nat.le_of_ble_eq_true rfl) dX8_not2_19 rfl (Nat.le_of_ble_eq_true rfl) (by omega) (loc1 := [(2, 69)]) rfl ?_
    refine sp_opensm hn (by omega) hB hJ hx ho (by omega) (fun M2 J2 f2 => ?_)
    have F2 := ((Fr.rf : Fr VMr M0 M0)).tr f2
    have X2 := lxN_le (f := f) hx
    have Y2 := lxA_le (f := f) hx
    refine wp_if_ne (tgt := 27) dX8_not2_22 (by decide) (fun _ => ?_) (fun h => absurd h (by decide))
    refine wp_aload_n dX8_not2_27 rfl rfl ?_
    refine wp_callV0 (d' := d - 1) cv_RX8_282 69 rfl [] [] rfl rfl (Or.inl ⟨_, _, rfl, by decide, rfl, by omega, by omega⟩) (by omega) (Nat.le_of_ble_eq_true rfl) dX8_not2_28 rfl (Nat.le_of_ble_eq_true rfl) (by omega) (loc1 := [(2, 69), (9, 0), (9, 0), (9, 0)]) rfl ?_
    refine hs2 _ _ _ _ (by omega) J2 X2.1 (fun M3 w3 q3 => ?_)
    obtain ⟨f3, q3⟩ := q3
    have F3 := (F2).tr f3
    have b3 := hq.2.1 _ X2.1
    generalize r3 : q.2.1 (lxN f z x) = u3 at q3 b3
    rcases u3 with p3 | ⟨y3, c3, v3⟩
    · have D3 : DJm M3 t f z p3 (o + 1) e := q3
      refine wp_istore_n (loc' := [(2, 69), (0, w3), (9, 0), (9, 0)]) dX8_not2_31 rfl (Nat.le_of_ble_eq_true rfl) rfl ?_
      refine wp_aload_n dX8_not2_32 rfl rfl ?_
      refine wp_dup dX8_not2_33 (Or.inr rfl) ?_
      refine wp_get 69 rfl fl_RX8_191 rfl ⟨by omega, by omega⟩ dX8_not2_34 rfl (v := (o + 1)) (D3.2.1) ?_
      refine wp_iconst dX8_not2_37 (by decide) ?_
      refine wp_isub dX8_not2_38 (by omega) ?_
      refine wp_puti 69 rfl fl_RX8_191 rfl ⟨by omega, by omega⟩ dX8_not2_39 rfl rfl ?_
      refine wp_iload_n dX8_not2_42 rfl rfl ?_
      refine wp_if_ne (tgt := 50) dX8_not2_43 (by decide) (fun h43 => ?_) (fun h43 => ?_)
      · refine wp_iconst dX8_not2_50 (by decide) ?_
        refine wp_iret rfl dX8_not2_51 ?_
        have J4 := (D3).opn (show ((o + 1) - 1) = o by omega)
        have B4 : Fr VMr M0 (mu M3 69 25 ((o + 1) - 1)) := (F3).tr fm25
        generalize (mu M3 69 25 ((o + 1) - 1)) = N4 at J4 B4 ⊢
        have ee : notP f z (some q) (gBn f z opC 1 P) x = pbd (q.2.1 (lxN f z x)) (fun y c v => .inr (y, c ++ [-9], fun e => if v e = 0 then 1 else 0)) := if_pos t1
        rw [ee, r3] at k
        exact k _ _ ⟨B4, J4⟩
      · refine wp_iconst dX8_not2_46 (by decide) ?_
        refine wp_goto (tgt := 51) dX8_not2_47 (by decide) ?_
        refine wp_iret rfl dX8_not2_51 ?_
        have J5 := (D3).opn (show ((o + 1) - 1) = o by omega)
        have B5 : Fr VMr M0 (mu M3 69 25 ((o + 1) - 1)) := (F3).tr fm25
        generalize (mu M3 69 25 ((o + 1) - 1)) = N5 at J5 B5 ⊢
        have ee : notP f z (some q) (gBn f z opC 1 P) x = pbd (q.2.1 (lxN f z x)) (fun y c v => .inr (y, c ++ [-9], fun e => if v e = 0 then 1 else 0)) := if_pos t1
        rw [ee, r3] at k
        exact k _ _ ⟨B5, J5⟩
    · obtain ⟨J3, e3⟩ : RJm M3 t f z y3 (o + 1) e ∧ w3 = v3 e := q3
      obtain ⟨b3, B3, _⟩ : (lxN f z x) + c3.length ≤ y3 ∧ (y3 : Int) ≤ z ∧ _ := b3
      refine wp_istore_n (loc' := [(2, 69), (0, w3), (9, 0), (9, 0)]) dX8_not2_31 rfl (Nat.le_of_ble_eq_true rfl) rfl ?_
      refine wp_aload_n dX8_not2_32 rfl rfl ?_
      refine wp_dup dX8_not2_33 (Or.inr rfl) ?_
      refine wp_get 69 rfl fl_RX8_191 rfl ⟨by omega, by omega⟩ dX8_not2_34 rfl (v := (o + 1)) (J3.2.2.1) ?_
      refine wp_iconst dX8_not2_37 (by decide) ?_
      refine wp_isub dX8_not2_38 (by omega) ?_
      refine wp_puti 69 rfl fl_RX8_191 rfl ⟨by omega, by omega⟩ dX8_not2_39 rfl rfl ?_
      refine wp_iload_n dX8_not2_42 rfl rfl ?_
      refine wp_if_ne (tgt := 50) dX8_not2_43 (by decide) (fun h43 => ?_) (fun h43 => ?_)
      · refine wp_iconst dX8_not2_50 (by decide) ?_
        refine wp_iret rfl dX8_not2_51 ?_
        have J6 := (J3).opn (show ((o + 1) - 1) = o by omega)
        have B6 : Fr VMr M0 (mu M3 69 25 ((o + 1) - 1)) := (F3).tr fm25
        generalize (mu M3 69 25 ((o + 1) - 1)) = N6 at J6 B6 ⊢
        have ee : notP f z (some q) (gBn f z opC 1 P) x = pbd (q.2.1 (lxN f z x)) (fun y c v => .inr (y, c ++ [-9], fun e => if v e = 0 then 1 else 0)) := if_pos t1
        rw [ee, r3] at k
        refine k _ _ ⟨B6, J6, ?_⟩
        show _ = (if v3 e = 0 then (1 : Int) else 0)
        rw [← e3]
        first | exact (if_pos (by omega)).symm | exact (if_neg (by omega)).symm
      · refine wp_iconst dX8_not2_46 (by decide) ?_
        refine wp_goto (tgt := 51) dX8_not2_47 (by decide) ?_
        refine wp_iret rfl dX8_not2_51 ?_
        have J7 := (J3).opn (show ((o + 1) - 1) = o by omega)
        have B7 : Fr VMr M0 (mu M3 69 25 ((o + 1) - 1)) := (F3).tr fm25
        generalize (mu M3 69 25 ((o + 1) - 1)) = N7 at J7 B7 ⊢
        have ee : notP f z (some q) (gBn f z opC 1 P) x = pbd (q.2.1 (lxN f z x)) (fun y c v => .inr (y, c ++ [-9], fun e => if v e = 0 then 1 else 0)) := if_pos t1
        rw [ee, r3] at k
        refine k _ _ ⟨B7, J7, ?_⟩
        show _ = (if v3 e = 0 then (1 : Int) else 0)
        rw [← e3]
        first | exact (if_pos (by omega)).symm | exact (if_neg (by omega)).symm
  · refine wp_if_eq (tgt := 52) dX8_not2_15 (by decide) (fun _ => ?_) (fun h => absurd h (by decide))
    refine wp_aload_n dX8_not2_52 rfl rfl ?_
    refine wp_callV0 (d' := d - 1) cv_RX8_297 69 rfl [] [] rfl rfl (Or.inl ⟨_, _, rfl, by decide, rfl, by omega, by omega⟩) (by omega) (Nat.le_of_ble_eq_true rfl) dX8_not2_53 rfl (Nat.le_of_ble_eq_true rfl) (by omega) (loc1 := [(2, 69), (9, 0), (9, 0), (9, 0)]) rfl ?_
    refine hc _ _ _ _ (by omega) hJ hx (fun M8 w8 q8 => ?_)
    obtain ⟨f8, q8⟩ := q8
    have F8 := ((Fr.rf : Fr VMr M0 M0)).tr f8
    have b8 := hqc _ hx
    generalize r8 : P x = u8 at q8 b8
    rcases u8 with p8 | ⟨y8, c8, v8⟩
    · have D8 : DJm M8 t f z p8 o e := q8
      refine wp_istore_n (loc' := [(2, 69), (0, w8), (9, 0), (9, 0)]) dX8_not2_56 rfl (Nat.le_of_ble_eq_true rfl) rfl ?_
      refine wp_aload_n dX8_not2_57 rfl rfl ?_
      refine wp_bipush dX8_not2_58 (by decide) (by decide) ?_
      refine wp_callV0 (d' := d - 1) cv_RX8_222 69 rfl [(0, 60)] [] rfl rfl (Or.inl ⟨_, _, rfl, by decide, rfl, by omega, by omega⟩) (by omega) (Nat.le_of_ble_eq_true rfl) dX8_not2_60 rfl (Nat.le_of_ble_eq_true rfl) (by omega) (loc1 := [(2, 69), (0, 60)]) rfl ?_
      refine sp_isSd hn D8 ?_
      refine wp_if_ne (tgt := 77) dX8_not2_63 (by decide) (fun h => absurd h (by decide)) (fun _ => ?_)
      refine wp_aload_n dX8_not2_66 rfl rfl ?_
      refine wp_bipush dX8_not2_67 (by decide) (by decide) ?_
      refine wp_callV0 (d' := d - 1) cv_RX8_222 69 rfl [(0, 61)] [] rfl rfl (Or.inl ⟨_, _, rfl, by decide, rfl, by omega, by omega⟩) (by omega) (Nat.le_of_ble_eq_true rfl) dX8_not2_69 rfl (Nat.le_of_ble_eq_true rfl) (by omega) (loc1 := [(2, 69), (0, 61)]) rfl ?_
      refine sp_isSd hn D8 ?_
      refine wp_if_ne (tgt := 77) dX8_not2_72 (by decide) (fun h => absurd h (by decide)) (fun _ => ?_)
      refine wp_iload_n dX8_not2_75 rfl rfl ?_
      refine wp_iret rfl dX8_not2_76 ?_
      have ee : notP f z (some q) (gBn f z opC 1 P) x = pbd (P x) (fun y c v => gL f z opC P 1 y c v) := if_neg t1
      rw [ee, r8] at k
      exact k _ _ ⟨F8, D8⟩
    · obtain ⟨J8, e8⟩ : RJm M8 t f z y8 o e ∧ w8 = v8 e := q8
      obtain ⟨b8, B8, _⟩ : x + c8.length ≤ y8 ∧ (y8 : Int) ≤ z ∧ _ := b8
      refine wp_istore_n (loc' := [(2, 69), (0, w8), (9, 0), (9, 0)]) dX8_not2_56 rfl (Nat.le_of_ble_eq_true rfl) rfl ?_
      refine wp_aload_n dX8_not2_57 rfl rfl ?_
      refine wp_bipush dX8_not2_58 (by decide) (by decide) ?_
      refine wp_callV0 (d' := d - 1) cv_RX8_222 69 rfl [(0, 60)] [] rfl rfl (Or.inl ⟨_, _, rfl, by decide, rfl, by omega, by omega⟩) (by omega) (Nat.le_of_ble_eq_true rfl) dX8_not2_60 rfl (Nat.le_of_ble_eq_true rfl) (by omega) (loc1 := [(2, 69), (0, 60)]) rfl ?_
      refine sp_isSg hn J8 60 (by decide) (fun t11 => ?_) (fun t11 => ?_)
      · have g11 := ((J8).2.1.2.2.sgn (s := 60) (by decide)).mpr t11
        refine wp_if_ne (tgt := 77) dX8_not2_63 (by decide) (fun _ => ?_) (fun h => absurd h (by decide))
        refine wp_aload_n dX8_not2_77 rfl rfl ?_
        refine wp_get 69 rfl fl_RX8_175 rfl ⟨by omega, by omega⟩ dX8_not2_78 rfl (v := 60) (g11.2) ?_
        refine wp_ldc2 (x := 60) dX8_not2_81 kl_RX8_244 (by decide) (wr_l (by omega)) ?_
        refine wp_lcmp dX8_not2_84 ?_
        change Wp _ _ _ _ _ _ _ _ ((0, 0) :: _) _ _ _
        refine wp_if_ne (tgt := 92) dX8_not2_85 (by decide) (fun h => absurd h (by decide)) (fun _ => ?_)
        refine wp_iconst dX8_not2_88 (by decide) ?_
        refine wp_goto (tgt := 93) dX8_not2_89 (by decide) ?_
        refine wp_istore_n (loc' := [(2, 69), (0, w8), (0, 1), (9, 0)]) dX8_not2_93 rfl (Nat.le_of_ble_eq_true rfl) rfl ?_
        refine wp_aload_n dX8_not2_94 rfl rfl ?_
        refine wp_callV0 (d' := d - 1) cv_RX8_197 69 rfl [] [] rfl rfl (Or.inl ⟨_, _, rfl, by decide, rfl, by omega, by omega⟩) (by omega) (Nat.le_of_ble_eq_true rfl) dX8_not2_95 rfl (Nat.le_of_ble_eq_true rfl) (by omega) (loc1 := [(2, 69), (9, 0), (9, 0)]) rfl ?_
        refine sp_next hn (by omega) hB (J8).1 ((J8).2.1.2.1 ((J8).2.1.2.2.ne4 (by omega))) (lxN_le B8).1 (fun M12 f12 l12 => ?_)
        have J12 := (J8).step f12 l12
        have F12 := (F8).tr (f12.mono VM1.r)
        have X12 := lxN_le (f := f) B8
        have Y12 := lxA_le (f := f) B8
        refine wp_aload_n dX8_not2_98 rfl rfl ?_
        refine wp_callV0 (d' := d - 1) cv_RX8_297 69 rfl [] [] rfl rfl (Or.inl ⟨_, _, rfl, by decide, rfl, by omega, by omega⟩) (by omega) (Nat.le_of_ble_eq_true rfl) dX8_not2_99 rfl (Nat.le_of_ble_eq_true rfl) (by omega) (loc1 := [(2, 69), (9, 0), (9, 0), (9, 0)]) rfl ?_
        refine hc _ _ _ _ (by omega) J12 X12.1 (fun M13 w13 q13 => ?_)
        obtain ⟨f13, q13⟩ := q13
        have F13 := (F12).tr f13
        have b13 := hqc _ X12.1
        generalize r13 : P (lxN f z y8) = u13 at q13 b13
        rcases u13 with p13 | ⟨y13, c13, v13⟩
        · have D13 : DJm M13 t f z p13 o e := q13
          refine wp_istore_n (loc' := [(2, 69), (0, w8), (0, 1), (0, w13)]) dX8_not2_102 rfl (Nat.le_of_ble_eq_true rfl) rfl ?_
          refine wp_iload_n dX8_not2_103 rfl rfl ?_
          refine wp_if_eq (tgt := 115) dX8_not2_104 (by decide) (fun h => absurd h (by decide)) (fun _ => ?_)
          refine wp_iload_n dX8_not2_107 rfl rfl ?_
          refine wp_iload_n dX8_not2_108 rfl rfl ?_
          refine wp_icmp_ge (tgt := 124) dX8_not2_109 (by decide) (fun h109 => ?_) (fun h109 => ?_)
          · refine wp_iconst dX8_not2_124 (by decide) ?_
            refine wp_iret rfl dX8_not2_125 ?_
            have ee : notP f z (some q) (gBn f z opC 1 P) x = pbd (P x) (fun y c v => gL f z opC P 1 y c v) := if_neg t1
            rw [ee, r8] at k
            have eo : opC (lxT f z y8) = -10 := if_pos t11
            have e2 : gL f z opC P 1 y8 c8 v8 = pbd (P (lxN f z y8)) (fun y c' v' => gL f z opC P 0 y (c8 ++ c' ++ [opC (lxT f z y8)]) (fun e => jn (opC (lxT f z y8)) (v8 e) (v' e))) := if_neg (by rw [eo]; decide)
            replace k : ∀ M' w, PoM M0 t f z o e (gL f z opC P 1 y8 c8 v8) M' w → Q (some (0, w)) M' := k
            rw [e2, r13] at k
            exact k _ _ ⟨F13, D13⟩
          · refine wp_goto (tgt := 120) dX8_not2_112 (by decide) ?_
            refine wp_iconst dX8_not2_120 (by decide) ?_
            refine wp_goto (tgt := 125) dX8_not2_121 (by decide) ?_
            refine wp_iret rfl dX8_not2_125 ?_
            have ee : notP f z (some q) (gBn f z opC 1 P) x = pbd (P x) (fun y c v => gL f z opC P 1 y c v) := if_neg t1
            rw [ee, r8] at k
            have eo : opC (lxT f z y8) = -10 := if_pos t11
            have e2 : gL f z opC P 1 y8 c8 v8 = pbd (P (lxN f z y8)) (fun y c' v' => gL f z opC P 0 y (c8 ++ c' ++ [opC (lxT f z y8)]) (fun e => jn (opC (lxT f z y8)) (v8 e) (v' e))) := if_neg (by rw [eo]; decide)
            replace k : ∀ M' w, PoM M0 t f z o e (gL f z opC P 1 y8 c8 v8) M' w → Q (some (0, w)) M' := k
            rw [e2, r13] at k
            exact k _ _ ⟨F13, D13⟩
        · obtain ⟨J13, e13⟩ : RJm M13 t f z y13 o e ∧ w13 = v13 e := q13
          obtain ⟨b13, B13, _⟩ : (lxN f z y8) + c13.length ≤ y13 ∧ (y13 : Int) ≤ z ∧ _ := b13
          refine wp_istore_n (loc' := [(2, 69), (0, w8), (0, 1), (0, w13)]) dX8_not2_102 rfl (Nat.le_of_ble_eq_true rfl) rfl ?_
          refine wp_iload_n dX8_not2_103 rfl rfl ?_
          refine wp_if_eq (tgt := 115) dX8_not2_104 (by decide) (fun h => absurd h (by decide)) (fun _ => ?_)
          refine wp_iload_n dX8_not2_107 rfl rfl ?_
          refine wp_iload_n dX8_not2_108 rfl rfl ?_
          refine wp_icmp_ge (tgt := 124) dX8_not2_109 (by decide) (fun h109 => ?_) (fun h109 => ?_)
          · refine wp_iconst dX8_not2_124 (by decide) ?_
            refine wp_iret rfl dX8_not2_125 ?_
            have ee : notP f z (some q) (gBn f z opC 1 P) x = pbd (P x) (fun y c v => gL f z opC P 1 y c v) := if_neg t1
            rw [ee, r8] at k
            have eo : opC (lxT f z y8) = -10 := if_pos t11
            have e2 : gL f z opC P 1 y8 c8 v8 = pbd (P (lxN f z y8)) (fun y c' v' => gL f z opC P 0 y (c8 ++ c' ++ [opC (lxT f z y8)]) (fun e => jn (opC (lxT f z y8)) (v8 e) (v' e))) := if_neg (by rw [eo]; decide)
            replace k : ∀ M' w, PoM M0 t f z o e (gL f z opC P 1 y8 c8 v8) M' w → Q (some (0, w)) M' := k
            rw [e2, r13] at k
            refine k _ _ ⟨F13, J13, ?_⟩
            show _ = jn (opC (lxT f z y8)) (v8 e) (v13 e)
            rw [eo, ← e8, ← e13, jn10]
            first | exact (if_pos (by omega)).symm | exact (if_neg (by omega)).symm
          · refine wp_goto (tgt := 120) dX8_not2_112 (by decide) ?_
            refine wp_iconst dX8_not2_120 (by decide) ?_
            refine wp_goto (tgt := 125) dX8_not2_121 (by decide) ?_
            refine wp_iret rfl dX8_not2_125 ?_
            have ee : notP f z (some q) (gBn f z opC 1 P) x = pbd (P x) (fun y c v => gL f z opC P 1 y c v) := if_neg t1
            rw [ee, r8] at k
            have eo : opC (lxT f z y8) = -10 := if_pos t11
            have e2 : gL f z opC P 1 y8 c8 v8 = pbd (P (lxN f z y8)) (fun y c' v' => gL f z opC P 0 y (c8 ++ c' ++ [opC (lxT f z y8)]) (fun e => jn (opC (lxT f z y8)) (v8 e) (v' e))) := if_neg (by rw [eo]; decide)
            replace k : ∀ M' w, PoM M0 t f z o e (gL f z opC P 1 y8 c8 v8) M' w → Q (some (0, w)) M' := k
            rw [e2, r13] at k
            refine k _ _ ⟨F13, J13, ?_⟩
            show _ = jn (opC (lxT f z y8)) (v8 e) (v13 e)
            rw [eo, ← e8, ← e13, jn10]
            first | exact (if_pos (by omega)).symm | exact (if_neg (by omega)).symm
      · refine wp_if_ne (tgt := 77) dX8_not2_63 (by decide) (fun h => absurd h (by decide)) (fun _ => ?_)
        refine wp_aload_n dX8_not2_66 rfl rfl ?_
        refine wp_bipush dX8_not2_67 (by decide) (by decide) ?_
        refine wp_callV0 (d' := d - 1) cv_RX8_222 69 rfl [(0, 61)] [] rfl rfl (Or.inl ⟨_, _, rfl, by decide, rfl, by omega, by omega⟩) (by omega) (Nat.le_of_ble_eq_true rfl) dX8_not2_69 rfl (Nat.le_of_ble_eq_true rfl) (by omega) (loc1 := [(2, 69), (0, 61)]) rfl ?_
        refine sp_isSg hn J8 61 (by decide) (fun t14 => ?_) (fun t14 => ?_)
        · have g14 := ((J8).2.1.2.2.sgn (s := 61) (by decide)).mpr t14
          refine wp_if_ne (tgt := 77) dX8_not2_72 (by decide) (fun _ => ?_) (fun h => absurd h (by decide))
          refine wp_aload_n dX8_not2_77 rfl rfl ?_
          refine wp_get 69 rfl fl_RX8_175 rfl ⟨by omega, by omega⟩ dX8_not2_78 rfl (v := 61) (g14.2) ?_
          refine wp_ldc2 (x := 60) dX8_not2_81 kl_RX8_244 (by decide) (wr_l (by omega)) ?_
          refine wp_lcmp dX8_not2_84 ?_
          change Wp _ _ _ _ _ _ _ _ ((0, 1) :: _) _ _ _
          refine wp_if_ne (tgt := 92) dX8_not2_85 (by decide) (fun _ => ?_) (fun h => absurd h (by decide))
          refine wp_iconst dX8_not2_92 (by decide) ?_
          refine wp_istore_n (loc' := [(2, 69), (0, w8), (0, 0), (9, 0)]) dX8_not2_93 rfl (Nat.le_of_ble_eq_true rfl) rfl ?_
          refine wp_aload_n dX8_not2_94 rfl rfl ?_
          refine wp_callV0 (d' := d - 1) cv_RX8_197 69 rfl [] [] rfl rfl (Or.inl ⟨_, _, rfl, by decide, rfl, by omega, by omega⟩) (by omega) (Nat.le_of_ble_eq_true rfl) dX8_not2_95 rfl (Nat.le_of_ble_eq_true rfl) (by omega) (loc1 := [(2, 69), (9, 0), (9, 0)]) rfl ?_
          refine sp_next hn (by omega) hB (J8).1 ((J8).2.1.2.1 ((J8).2.1.2.2.ne4 (by omega))) (lxN_le B8).1 (fun M15 f15 l15 => ?_)
          have J15 := (J8).step f15 l15
          have F15 := (F8).tr (f15.mono VM1.r)
          have X15 := lxN_le (f := f) B8
          have Y15 := lxA_le (f := f) B8
          refine wp_aload_n dX8_not2_98 rfl rfl ?_
          refine wp_callV0 (d' := d - 1) cv_RX8_297 69 rfl [] [] rfl rfl (Or.inl ⟨_, _, rfl, by decide, rfl, by omega, by omega⟩) (by omega) (Nat.le_of_ble_eq_true rfl) dX8_not2_99 rfl (Nat.le_of_ble_eq_true rfl) (by omega) (loc1 := [(2, 69), (9, 0), (9, 0), (9, 0)]) rfl ?_
          refine hc _ _ _ _ (by omega) J15 X15.1 (fun M16 w16 q16 => ?_)
          obtain ⟨f16, q16⟩ := q16
          have F16 := (F15).tr f16
          have b16 := hqc _ X15.1
          generalize r16 : P (lxN f z y8) = u16 at q16 b16
          rcases u16 with p16 | ⟨y16, c16, v16⟩
          · have D16 : DJm M16 t f z p16 o e := q16
            refine wp_istore_n (loc' := [(2, 69), (0, w8), (0, 0), (0, w16)]) dX8_not2_102 rfl (Nat.le_of_ble_eq_true rfl) rfl ?_
            refine wp_iload_n dX8_not2_103 rfl rfl ?_
            refine wp_if_eq (tgt := 115) dX8_not2_104 (by decide) (fun _ => ?_) (fun h => absurd h (by decide))
            refine wp_iload_n dX8_not2_115 rfl rfl ?_
            refine wp_iload_n dX8_not2_116 rfl rfl ?_
            refine wp_icmp_ne (tgt := 124) dX8_not2_117 (by decide) (fun h117 => ?_) (fun h117 => ?_)
            · refine wp_iconst dX8_not2_124 (by decide) ?_
              refine wp_iret rfl dX8_not2_125 ?_
              have ee : notP f z (some q) (gBn f z opC 1 P) x = pbd (P x) (fun y c v => gL f z opC P 1 y c v) := if_neg t1
              rw [ee, r8] at k
              have eo : opC (lxT f z y8) = -11 := (if_neg t11).trans (if_pos t14)
              have e2 : gL f z opC P 1 y8 c8 v8 = pbd (P (lxN f z y8)) (fun y c' v' => gL f z opC P 0 y (c8 ++ c' ++ [opC (lxT f z y8)]) (fun e => jn (opC (lxT f z y8)) (v8 e) (v' e))) := if_neg (by rw [eo]; decide)
              replace k : ∀ M' w, PoM M0 t f z o e (gL f z opC P 1 y8 c8 v8) M' w → Q (some (0, w)) M' := k
              rw [e2, r16] at k
              exact k _ _ ⟨F16, D16⟩
            · refine wp_iconst dX8_not2_120 (by decide) ?_
              refine wp_goto (tgt := 125) dX8_not2_121 (by decide) ?_
              refine wp_iret rfl dX8_not2_125 ?_
              have ee : notP f z (some q) (gBn f z opC 1 P) x = pbd (P x) (fun y c v => gL f z opC P 1 y c v) := if_neg t1
              rw [ee, r8] at k
              have eo : opC (lxT f z y8) = -11 := (if_neg t11).trans (if_pos t14)
              have e2 : gL f z opC P 1 y8 c8 v8 = pbd (P (lxN f z y8)) (fun y c' v' => gL f z opC P 0 y (c8 ++ c' ++ [opC (lxT f z y8)]) (fun e => jn (opC (lxT f z y8)) (v8 e) (v' e))) := if_neg (by rw [eo]; decide)
              replace k : ∀ M' w, PoM M0 t f z o e (gL f z opC P 1 y8 c8 v8) M' w → Q (some (0, w)) M' := k
              rw [e2, r16] at k
              exact k _ _ ⟨F16, D16⟩
          · obtain ⟨J16, e16⟩ : RJm M16 t f z y16 o e ∧ w16 = v16 e := q16
            obtain ⟨b16, B16, _⟩ : (lxN f z y8) + c16.length ≤ y16 ∧ (y16 : Int) ≤ z ∧ _ := b16
            refine wp_istore_n (loc' := [(2, 69), (0, w8), (0, 0), (0, w16)]) dX8_not2_102 rfl (Nat.le_of_ble_eq_true rfl) rfl ?_
            refine wp_iload_n dX8_not2_103 rfl rfl ?_
            refine wp_if_eq (tgt := 115) dX8_not2_104 (by decide) (fun _ => ?_) (fun h => absurd h (by decide))
            refine wp_iload_n dX8_not2_115 rfl rfl ?_
            refine wp_iload_n dX8_not2_116 rfl rfl ?_
            refine wp_icmp_ne (tgt := 124) dX8_not2_117 (by decide) (fun h117 => ?_) (fun h117 => ?_)
            · refine wp_iconst dX8_not2_124 (by decide) ?_
              refine wp_iret rfl dX8_not2_125 ?_
              have ee : notP f z (some q) (gBn f z opC 1 P) x = pbd (P x) (fun y c v => gL f z opC P 1 y c v) := if_neg t1
              rw [ee, r8] at k
              have eo : opC (lxT f z y8) = -11 := (if_neg t11).trans (if_pos t14)
              have e2 : gL f z opC P 1 y8 c8 v8 = pbd (P (lxN f z y8)) (fun y c' v' => gL f z opC P 0 y (c8 ++ c' ++ [opC (lxT f z y8)]) (fun e => jn (opC (lxT f z y8)) (v8 e) (v' e))) := if_neg (by rw [eo]; decide)
              replace k : ∀ M' w, PoM M0 t f z o e (gL f z opC P 1 y8 c8 v8) M' w → Q (some (0, w)) M' := k
              rw [e2, r16] at k
              refine k _ _ ⟨F16, J16, ?_⟩
              show _ = jn (opC (lxT f z y8)) (v8 e) (v16 e)
              rw [eo, ← e8, ← e16, jn11]
              first | exact (if_pos (by omega)).symm | exact (if_neg (by omega)).symm
            · refine wp_iconst dX8_not2_120 (by decide) ?_
              refine wp_goto (tgt := 125) dX8_not2_121 (by decide) ?_
              refine wp_iret rfl dX8_not2_125 ?_
              have ee : notP f z (some q) (gBn f z opC 1 P) x = pbd (P x) (fun y c v => gL f z opC P 1 y c v) := if_neg t1
              rw [ee, r8] at k
              have eo : opC (lxT f z y8) = -11 := (if_neg t11).trans (if_pos t14)
              have e2 : gL f z opC P 1 y8 c8 v8 = pbd (P (lxN f z y8)) (fun y c' v' => gL f z opC P 0 y (c8 ++ c' ++ [opC (lxT f z y8)]) (fun e => jn (opC (lxT f z y8)) (v8 e) (v' e))) := if_neg (by rw [eo]; decide)
              replace k : ∀ M' w, PoM M0 t f z o e (gL f z opC P 1 y8 c8 v8) M' w → Q (some (0, w)) M' := k
              rw [e2, r16] at k
              refine k _ _ ⟨F16, J16, ?_⟩
              show _ = jn (opC (lxT f z y8)) (v8 e) (v16 e)
              rw [eo, ← e8, ← e16, jn11]
              first | exact (if_pos (by omega)).symm | exact (if_neg (by omega)).symm
        · refine wp_if_ne (tgt := 77) dX8_not2_72 (by decide) (fun h => absurd h (by decide)) (fun _ => ?_)
          refine wp_iload_n dX8_not2_75 rfl rfl ?_
          refine wp_iret rfl dX8_not2_76 ?_
          have ee : notP f z (some q) (gBn f z opC 1 P) x = pbd (P x) (fun y c v => gL f z opC P 1 y c v) := if_neg t1
          rw [ee, r8] at k
          have e2 : gL f z opC P 1 y8 c8 v8 = .inr (y8, c8, v8) := if_pos (show opC (lxT f z y8) = 0 from (if_neg t11).trans (if_neg t14))
          replace k : ∀ M' w, PoM M0 t f z o e (gL f z opC P 1 y8 c8 v8) M' w → Q (some (0, w)) M' := k
          rw [e2] at k
          exact k _ _ ⟨F8, J8, e8⟩
set_option maxRecDepth 20000 in
set_option maxHeartbeats 4000000 in
theorem lq_term3 {l : Launch} {g : Gw} {n : Nat} (hn : 90 ≤ n) {t : Nat} {f : Nat → Int} {z : Int} {e : Int → Int} {B : Nat} (hB8 : 12 ≤ B) (hB : BT f z) {o : Int} {P : Nat → PR} (hs : CMm l g n t f z e m_X8_atom3 [(9, 0)] B o P) (hq : ∀ x : Nat, (x : Int) ≤ z → PQ z x (P x)) {d : Nat} (hd : B + 1 ≤ d) : ∀ (m x : Nat) (ce : List Int) (vl : Vl) (v : Int) (M0 : Mm) (Q : Option Wd → Mm → Prop), z ≤ (x : Int) + m → RJm M0 t f z x o e → (x : Int) ≤ z → v = vl e → (∀ M' w, PoM M0 t f z o e (gL f z opT P m x ce vl) M' w → Q (some (0, w)) M') → Wp l g d 0 0 n m_X8_term3 5 [] [(2, 69), (0, v)] M0 Q := by
  intro m
  induction m with
  | zero =>
    intro x ce vl v M0 Q hm hJ hx hv k
    refine wp_aload_n dX8_term3_5 rfl rfl ?_
    refine wp_bipush dX8_term3_6 (by decide) (by decide) ?_
    refine wp_callV0 (d' := d - 1) cv_RX8_222 69 rfl [(0, 42)] [] rfl rfl (Or.inl ⟨_, _, rfl, by decide, rfl, by omega, by omega⟩) (by omega) (Nat.le_of_ble_eq_true rfl) dX8_term3_8 rfl (Nat.le_of_ble_eq_true rfl) (by omega) (loc1 := [(2, 69), (0, 42)]) rfl ?_
    refine sp_isSg hn hJ 42 (by decide) (fun t1 => absurd t1 (by rw [lxT_end (by omega)]; decide)) (fun t1 => ?_)
    refine wp_if_eq (tgt := 28) dX8_term3_11 (by decide) (fun _ => ?_) (fun h => absurd h (by decide))
    refine wp_iload_n dX8_term3_28 rfl rfl ?_
    refine wp_iret rfl dX8_term3_29 ?_
    exact k _ _ ⟨Fr.rf, hJ, hv⟩
  | succ m ih =>
    intro x ce vl v M0 Q hm hJ hx hv k
    refine wp_aload_n dX8_term3_5 rfl rfl ?_
    refine wp_bipush dX8_term3_6 (by decide) (by decide) ?_
    refine wp_callV0 (d' := d - 1) cv_RX8_222 69 rfl [(0, 42)] [] rfl rfl (Or.inl ⟨_, _, rfl, by decide, rfl, by omega, by omega⟩) (by omega) (Nat.le_of_ble_eq_true rfl) dX8_term3_8 rfl (Nat.le_of_ble_eq_true rfl) (by omega) (loc1 := [(2, 69), (0, 42)]) rfl ?_
    refine sp_isSg hn hJ 42 (by decide) (fun t1 => ?_) (fun t1 => ?_)
    · have g1 := ((hJ).2.1.2.2.sgn (s := 42) (by decide)).mpr t1
      refine wp_if_eq (tgt := 28) dX8_term3_11 (by decide) (fun h => absurd h (by decide)) (fun _ => ?_)
      refine wp_aload_n dX8_term3_14 rfl rfl ?_
      refine wp_callV0 (d' := d - 1) cv_RX8_197 69 rfl [] [] rfl rfl (Or.inl ⟨_, _, rfl, by decide, rfl, by omega, by omega⟩) (by omega) (Nat.le_of_ble_eq_true rfl) dX8_term3_15 rfl (Nat.le_of_ble_eq_true rfl) (by omega) (loc1 := [(2, 69), (9, 0), (9, 0)]) rfl ?_
      refine sp_next hn (by omega) hB (hJ).1 ((hJ).2.1.2.1 ((hJ).2.1.2.2.ne4 (by omega))) (lxN_le hx).1 (fun M2 f2 l2 => ?_)
      have J2 := (hJ).step f2 l2
      have F2 := ((Fr.rf : Fr VMr M0 M0)).tr (f2.mono VM1.r)
      have X2 := lxN_le (f := f) hx
      have Y2 := lxA_le (f := f) hx
      refine wp_iload_n dX8_term3_18 rfl rfl ?_
      refine wp_aload_n dX8_term3_19 rfl rfl ?_
      refine wp_callV0 (d' := d - 1) cv_RX8_273 69 rfl [] [(0, v)] rfl rfl (Or.inl ⟨_, _, rfl, by decide, rfl, by omega, by omega⟩) (by omega) (Nat.le_of_ble_eq_true rfl) dX8_term3_20 rfl (Nat.le_of_ble_eq_true rfl) (by omega) (loc1 := [(2, 69), (9, 0)]) rfl ?_
      refine hs _ _ _ _ (by omega) J2 X2.1 (fun M3 w3 q3 => ?_)
      obtain ⟨f3, q3⟩ := q3
      have F3 := (F2).tr f3
      have b3 := hq _ X2.1
      generalize r3 : P (lxN f z x) = u3 at q3 b3
      rcases u3 with p3 | ⟨y3, c3, v3⟩
      · have D3 : DJm M3 t f z p3 o e := q3
        refine wp_imulw dX8_term3_23 ?_
        refine wp_istore_n (loc' := [(2, 69), (0, (wrap (v * w3)))]) dX8_term3_24 rfl (Nat.le_of_ble_eq_true rfl) rfl ?_
        refine wp_goto (tgt := 5) dX8_term3_25 (by decide) ?_
        have eo : opT (lxT f z x) = -14 := if_pos t1
        have ee : gL f z opT P (m + 1) x ce vl = pbd (P (lxN f z x)) (fun y c' v' => gL f z opT P m y (ce ++ c' ++ [opT (lxT f z x)]) (fun e => jn (opT (lxT f z x)) (vl e) (v' e))) := if_neg (by rw [eo]; decide)
        rw [ee, r3] at k
        exact lqd_term3 hn (by omega) (D3) (fun M9 w9 f9 d9 => k M9 w9 ⟨(F3).tr f9, d9⟩)
      · obtain ⟨J3, e3⟩ : RJm M3 t f z y3 o e ∧ w3 = v3 e := q3
        obtain ⟨b3, B3, _⟩ : (lxN f z x) + c3.length ≤ y3 ∧ (y3 : Int) ≤ z ∧ _ := b3
        refine wp_imulw dX8_term3_23 ?_
        refine wp_istore_n (loc' := [(2, 69), (0, (wrap (v * w3)))]) dX8_term3_24 rfl (Nat.le_of_ble_eq_true rfl) rfl ?_
        refine wp_goto (tgt := 5) dX8_term3_25 (by decide) ?_
        have eo : opT (lxT f z x) = -14 := if_pos t1
        have ee : gL f z opT P (m + 1) x ce vl = pbd (P (lxN f z x)) (fun y c' v' => gL f z opT P m y (ce ++ c' ++ [opT (lxT f z x)]) (fun e => jn (opT (lxT f z x)) (vl e) (v' e))) := if_neg (by rw [eo]; decide)
        rw [ee, r3] at k
        have hv2 : (wrap (v * w3)) = jn (opT (lxT f z x)) (vl e) (v3 e) := by
          rw [eo, ← hv, ← e3, jn14]
        have hg := X2.2.2 (by omega)
        exact ih y3 _ (fun e => jn (opT (lxT f z x)) (vl e) (v3 e)) _ _ Q (by omega) J3 B3 hv2 (fun M9 w9 q9 => k M9 w9 ⟨(F3).tr q9.1, q9.2⟩)
    · refine wp_if_eq (tgt := 28) dX8_term3_11 (by decide) (fun _ => ?_) (fun h => absurd h (by decide))
      refine wp_iload_n dX8_term3_28 rfl rfl ?_
      refine wp_iret rfl dX8_term3_29 ?_
      have ee : gL f z opT P (m + 1) x ce vl = .inr (x, ce, vl) := if_pos (show opT (lxT f z x) = 0 from if_neg t1)
      rw [ee] at k
      exact k _ _ ⟨Fr.rf, hJ, hv⟩
set_option maxRecDepth 20000 in
set_option maxHeartbeats 4000000 in
theorem cm_term3 {l : Launch} {g : Gw} {n : Nat} (hn : 90 ≤ n) {t : Nat} {f : Nat → Int} {z : Int} {e : Int → Int} {B : Nat} (hB8 : 12 ≤ B) (hB : BT f z) {o : Int} {P : Nat → PR} (hs : CMm l g n t f z e m_X8_atom3 [(9, 0)] B o P) (hq : ∀ x : Nat, (x : Int) ≤ z → PQ z x (P x)) : CMm l g n t f z e m_X8_term3 [(9, 0)] (B + 1) o (gBn f z opT 160 P) := by
  intro d M0 Q x hd hJ hx k
  have hz1 := hJ.1.2.2.2.2.2.1
  refine wp_aload_n dX8_term3_0 rfl rfl ?_
  refine wp_callV0 (d' := d - 1) cv_RX8_273 69 rfl [] [] rfl rfl (Or.inl ⟨_, _, rfl, by decide, rfl, by omega, by omega⟩) (by omega) (Nat.le_of_ble_eq_true rfl) dX8_term3_1 rfl (Nat.le_of_ble_eq_true rfl) (by omega) (loc1 := [(2, 69), (9, 0)]) rfl ?_
  refine hs _ _ _ _ (by omega) hJ hx (fun M1 w1 q1 => ?_)
  obtain ⟨f1, q1⟩ := q1
  have F1 := ((Fr.rf : Fr VMr M0 M0)).tr f1
  have b1 := hq _ hx
  generalize r1 : P x = u1 at q1 b1
  rcases u1 with p1 | ⟨y1, c1, v1⟩
  · have D1 : DJm M1 t f z p1 o e := q1
    refine wp_istore_n (loc' := [(2, 69), (0, w1)]) dX8_term3_4 rfl (Nat.le_of_ble_eq_true rfl) rfl ?_
    have ee : gBn f z opT 160 P x = pbd (P x) (fun y c v => gL f z opT P 160 y c v) := rfl
    rw [ee, r1] at k
    exact lqd_term3 hn (by omega) (D1) (fun M9 w9 f9 d9 => k M9 w9 ⟨(F1).tr f9, d9⟩)
  · obtain ⟨J1, e1⟩ : RJm M1 t f z y1 o e ∧ w1 = v1 e := q1
    obtain ⟨b1, B1, _⟩ : x + c1.length ≤ y1 ∧ (y1 : Int) ≤ z ∧ _ := b1
    refine wp_istore_n (loc' := [(2, 69), (0, w1)]) dX8_term3_4 rfl (Nat.le_of_ble_eq_true rfl) rfl ?_
    have ee : gBn f z opT 160 P x = pbd (P x) (fun y c v => gL f z opT P 160 y c v) := rfl
    rw [ee, r1] at k
    exact lq_term3 hn hB8 hB hs hq hd 160 y1 c1 v1 w1 _ Q (by omega) J1 B1 e1 (fun M9 w9 q9 => k M9 w9 ⟨(F1).tr q9.1, q9.2⟩)
set_option maxRecDepth 20000 in
set_option maxHeartbeats 4000000 in
theorem lq_added3 {l : Launch} {g : Gw} {n : Nat} (hn : 90 ≤ n) {t : Nat} {f : Nat → Int} {z : Int} {e : Int → Int} {B : Nat} (hB8 : 12 ≤ B) (hB : BT f z) {o : Int} {P : Nat → PR} (hs : CMm l g n t f z e m_X8_term3 [(9, 0)] B o P) (hq : ∀ x : Nat, (x : Int) ≤ z → PQ z x (P x)) {d : Nat} (hd : B + 1 ≤ d) : ∀ (m x : Nat) (ce : List Int) (vl : Vl) (v : Int) (u2 : Wd) (u3 : Wd) (M0 : Mm) (Q : Option Wd → Mm → Prop), z ≤ (x : Int) + m → RJm M0 t f z x o e → (x : Int) ≤ z → v = vl e → (∀ M' w, PoM M0 t f z o e (gL f z opS P m x ce vl) M' w → Q (some (0, w)) M') → Wp l g d 0 0 n m_X8_added3 5 [] [(2, 69), (0, v), u2, u3] M0 Q := by
  intro m
  induction m with
  | zero =>
    intro x ce vl v u2 u3 M0 Q hm hJ hx hv k
    refine wp_aload_n dX8_added3_5 rfl rfl ?_
    refine wp_bipush dX8_added3_6 (by decide) (by decide) ?_
    refine wp_callV0 (d' := d - 1) cv_RX8_222 69 rfl [(0, 43)] [] rfl rfl (Or.inl ⟨_, _, rfl, by decide, rfl, by omega, by omega⟩) (by omega) (Nat.le_of_ble_eq_true rfl) dX8_added3_8 rfl (Nat.le_of_ble_eq_true rfl) (by omega) (loc1 := [(2, 69), (0, 43)]) rfl ?_
    refine sp_isSg hn hJ 43 (by decide) (fun t1 => absurd t1 (by rw [lxT_end (by omega)]; decide)) (fun t1 => ?_)
    refine wp_if_ne (tgt := 23) dX8_added3_11 (by decide) (fun h => absurd h (by decide)) (fun _ => ?_)
    refine wp_aload_n dX8_added3_14 rfl rfl ?_
    refine wp_bipush dX8_added3_15 (by decide) (by decide) ?_
    refine wp_callV0 (d' := d - 1) cv_RX8_222 69 rfl [(0, 45)] [] rfl rfl (Or.inl ⟨_, _, rfl, by decide, rfl, by omega, by omega⟩) (by omega) (Nat.le_of_ble_eq_true rfl) dX8_added3_17 rfl (Nat.le_of_ble_eq_true rfl) (by omega) (loc1 := [(2, 69), (0, 45)]) rfl ?_
    refine sp_isSg hn hJ 45 (by decide) (fun t2 => absurd t2 (by rw [lxT_end (by omega)]; decide)) (fun t2 => ?_)
    refine wp_if_eq (tgt := 66) dX8_added3_20 (by decide) (fun _ => ?_) (fun h => absurd h (by decide))
    refine wp_iload_n dX8_added3_66 rfl rfl ?_
    refine wp_iret rfl dX8_added3_67 ?_
    exact k _ _ ⟨Fr.rf, hJ, hv⟩
  | succ m ih =>
    intro x ce vl v u2 u3 M0 Q hm hJ hx hv k
    refine wp_aload_n dX8_added3_5 rfl rfl ?_
    refine wp_bipush dX8_added3_6 (by decide) (by decide) ?_
    refine wp_callV0 (d' := d - 1) cv_RX8_222 69 rfl [(0, 43)] [] rfl rfl (Or.inl ⟨_, _, rfl, by decide, rfl, by omega, by omega⟩) (by omega) (Nat.le_of_ble_eq_true rfl) dX8_added3_8 rfl (Nat.le_of_ble_eq_true rfl) (by omega) (loc1 := [(2, 69), (0, 43)]) rfl ?_
    refine sp_isSg hn hJ 43 (by decide) (fun t1 => ?_) (fun t1 => ?_)
    · have g1 := ((hJ).2.1.2.2.sgn (s := 43) (by decide)).mpr t1
      refine wp_if_ne (tgt := 23) dX8_added3_11 (by decide) (fun _ => ?_) (fun h => absurd h (by decide))
      refine wp_aload_n dX8_added3_23 rfl rfl ?_
      refine wp_get 69 rfl fl_RX8_175 rfl ⟨by omega, by omega⟩ dX8_added3_24 rfl (v := 43) (g1.2) ?_
      refine wp_ldc2 (x := 43) dX8_added3_27 kl_RX8_239 (by decide) (wr_l (by omega)) ?_
      refine wp_lcmp dX8_added3_30 ?_
      change Wp _ _ _ _ _ _ _ _ ((0, 0) :: _) _ _ _
      refine wp_if_ne (tgt := 38) dX8_added3_31 (by decide) (fun h => absurd h (by decide)) (fun _ => ?_)
      refine wp_iconst dX8_added3_34 (by decide) ?_
      refine wp_goto (tgt := 39) dX8_added3_35 (by decide) ?_
      refine wp_istore_n (loc' := [(2, 69), (0, v), (0, 1), u3]) dX8_added3_39 rfl (Nat.le_of_ble_eq_true rfl) rfl ?_
      refine wp_aload_n dX8_added3_40 rfl rfl ?_
      refine wp_callV0 (d' := d - 1) cv_RX8_197 69 rfl [] [] rfl rfl (Or.inl ⟨_, _, rfl, by decide, rfl, by omega, by omega⟩) (by omega) (Nat.le_of_ble_eq_true rfl) dX8_added3_41 rfl (Nat.le_of_ble_eq_true rfl) (by omega) (loc1 := [(2, 69), (9, 0), (9, 0)]) rfl ?_
      refine sp_next hn (by omega) hB (hJ).1 ((hJ).2.1.2.1 ((hJ).2.1.2.2.ne4 (by omega))) (lxN_le hx).1 (fun M2 f2 l2 => ?_)
      have J2 := (hJ).step f2 l2
      have F2 := ((Fr.rf : Fr VMr M0 M0)).tr (f2.mono VM1.r)
      have X2 := lxN_le (f := f) hx
      have Y2 := lxA_le (f := f) hx
      refine wp_aload_n dX8_added3_44 rfl rfl ?_
      refine wp_callV0 (d' := d - 1) cv_RX8_276 69 rfl [] [] rfl rfl (Or.inl ⟨_, _, rfl, by decide, rfl, by omega, by omega⟩) (by omega) (Nat.le_of_ble_eq_true rfl) dX8_added3_45 rfl (Nat.le_of_ble_eq_true rfl) (by omega) (loc1 := [(2, 69), (9, 0)]) rfl ?_
      refine hs _ _ _ _ (by omega) J2 X2.1 (fun M3 w3 q3 => ?_)
      obtain ⟨f3, q3⟩ := q3
      have F3 := (F2).tr f3
      have b3 := hq _ X2.1
      generalize r3 : P (lxN f z x) = u3 at q3 b3
      rcases u3 with p3 | ⟨y3, c3, v3⟩
      · have D3 : DJm M3 t f z p3 o e := q3
        refine wp_istore_n (loc' := [(2, 69), (0, v), (0, 1), (0, w3)]) dX8_added3_48 rfl (Nat.le_of_ble_eq_true rfl) rfl ?_
        refine wp_iload_n dX8_added3_49 rfl rfl ?_
        refine wp_if_eq (tgt := 59) dX8_added3_50 (by decide) (fun h => absurd h (by decide)) (fun _ => ?_)
        refine wp_iload_n dX8_added3_53 rfl rfl ?_
        refine wp_iload_n dX8_added3_54 rfl rfl ?_
        refine wp_iaddw dX8_added3_55 ?_
        refine wp_goto (tgt := 62) dX8_added3_56 (by decide) ?_
        refine wp_istore_n (loc' := [(2, 69), (0, (wrap (v + w3))), (0, 1), (0, w3)]) dX8_added3_62 rfl (Nat.le_of_ble_eq_true rfl) rfl ?_
        refine wp_goto (tgt := 5) dX8_added3_63 (by decide) ?_
        have eo : opS (lxT f z x) = -12 := if_pos t1
        have ee : gL f z opS P (m + 1) x ce vl = pbd (P (lxN f z x)) (fun y c' v' => gL f z opS P m y (ce ++ c' ++ [opS (lxT f z x)]) (fun e => jn (opS (lxT f z x)) (vl e) (v' e))) := if_neg (by rw [eo]; decide)
        rw [ee, r3] at k
        exact lqd_added3 hn (by omega) (D3) (fun M9 w9 f9 d9 => k M9 w9 ⟨(F3).tr f9, d9⟩)
      · obtain ⟨J3, e3⟩ : RJm M3 t f z y3 o e ∧ w3 = v3 e := q3
        obtain ⟨b3, B3, _⟩ : (lxN f z x) + c3.length ≤ y3 ∧ (y3 : Int) ≤ z ∧ _ := b3
        refine wp_istore_n (loc' := [(2, 69), (0, v), (0, 1), (0, w3)]) dX8_added3_48 rfl (Nat.le_of_ble_eq_true rfl) rfl ?_
        refine wp_iload_n dX8_added3_49 rfl rfl ?_
        refine wp_if_eq (tgt := 59) dX8_added3_50 (by decide) (fun h => absurd h (by decide)) (fun _ => ?_)
        refine wp_iload_n dX8_added3_53 rfl rfl ?_
        refine wp_iload_n dX8_added3_54 rfl rfl ?_
        refine wp_iaddw dX8_added3_55 ?_
        refine wp_goto (tgt := 62) dX8_added3_56 (by decide) ?_
        refine wp_istore_n (loc' := [(2, 69), (0, (wrap (v + w3))), (0, 1), (0, w3)]) dX8_added3_62 rfl (Nat.le_of_ble_eq_true rfl) rfl ?_
        refine wp_goto (tgt := 5) dX8_added3_63 (by decide) ?_
        have eo : opS (lxT f z x) = -12 := if_pos t1
        have ee : gL f z opS P (m + 1) x ce vl = pbd (P (lxN f z x)) (fun y c' v' => gL f z opS P m y (ce ++ c' ++ [opS (lxT f z x)]) (fun e => jn (opS (lxT f z x)) (vl e) (v' e))) := if_neg (by rw [eo]; decide)
        rw [ee, r3] at k
        have hv2 : (wrap (v + w3)) = jn (opS (lxT f z x)) (vl e) (v3 e) := by
          rw [eo, ← hv, ← e3, jn12]
        have hg := X2.2.2 (by omega)
        exact ih y3 _ (fun e => jn (opS (lxT f z x)) (vl e) (v3 e)) _ _ _ _ Q (by omega) J3 B3 hv2 (fun M9 w9 q9 => k M9 w9 ⟨(F3).tr q9.1, q9.2⟩)
    · refine wp_if_ne (tgt := 23) dX8_added3_11 (by decide) (fun h => absurd h (by decide)) (fun _ => ?_)
      refine wp_aload_n dX8_added3_14 rfl rfl ?_
      refine wp_bipush dX8_added3_15 (by decide) (by decide) ?_
      refine wp_callV0 (d' := d - 1) cv_RX8_222 69 rfl [(0, 45)] [] rfl rfl (Or.inl ⟨_, _, rfl, by decide, rfl, by omega, by omega⟩) (by omega) (Nat.le_of_ble_eq_true rfl) dX8_added3_17 rfl (Nat.le_of_ble_eq_true rfl) (by omega) (loc1 := [(2, 69), (0, 45)]) rfl ?_
      refine sp_isSg hn hJ 45 (by decide) (fun t4 => ?_) (fun t4 => ?_)
      · have g4 := ((hJ).2.1.2.2.sgn (s := 45) (by decide)).mpr t4
        refine wp_if_eq (tgt := 66) dX8_added3_20 (by decide) (fun h => absurd h (by decide)) (fun _ => ?_)
        refine wp_aload_n dX8_added3_23 rfl rfl ?_
        refine wp_get 69 rfl fl_RX8_175 rfl ⟨by omega, by omega⟩ dX8_added3_24 rfl (v := 45) (g4.2) ?_
        refine wp_ldc2 (x := 43) dX8_added3_27 kl_RX8_239 (by decide) (wr_l (by omega)) ?_
        refine wp_lcmp dX8_added3_30 ?_
        change Wp _ _ _ _ _ _ _ _ ((0, 1) :: _) _ _ _
        refine wp_if_ne (tgt := 38) dX8_added3_31 (by decide) (fun _ => ?_) (fun h => absurd h (by decide))
        refine wp_iconst dX8_added3_38 (by decide) ?_
        refine wp_istore_n (loc' := [(2, 69), (0, v), (0, 0), u3]) dX8_added3_39 rfl (Nat.le_of_ble_eq_true rfl) rfl ?_
        refine wp_aload_n dX8_added3_40 rfl rfl ?_
        refine wp_callV0 (d' := d - 1) cv_RX8_197 69 rfl [] [] rfl rfl (Or.inl ⟨_, _, rfl, by decide, rfl, by omega, by omega⟩) (by omega) (Nat.le_of_ble_eq_true rfl) dX8_added3_41 rfl (Nat.le_of_ble_eq_true rfl) (by omega) (loc1 := [(2, 69), (9, 0), (9, 0)]) rfl ?_
        refine sp_next hn (by omega) hB (hJ).1 ((hJ).2.1.2.1 ((hJ).2.1.2.2.ne4 (by omega))) (lxN_le hx).1 (fun M5 f5 l5 => ?_)
        have J5 := (hJ).step f5 l5
        have F5 := ((Fr.rf : Fr VMr M0 M0)).tr (f5.mono VM1.r)
        have X5 := lxN_le (f := f) hx
        have Y5 := lxA_le (f := f) hx
        refine wp_aload_n dX8_added3_44 rfl rfl ?_
        refine wp_callV0 (d' := d - 1) cv_RX8_276 69 rfl [] [] rfl rfl (Or.inl ⟨_, _, rfl, by decide, rfl, by omega, by omega⟩) (by omega) (Nat.le_of_ble_eq_true rfl) dX8_added3_45 rfl (Nat.le_of_ble_eq_true rfl) (by omega) (loc1 := [(2, 69), (9, 0)]) rfl ?_
        refine hs _ _ _ _ (by omega) J5 X5.1 (fun M6 w6 q6 => ?_)
        obtain ⟨f6, q6⟩ := q6
        have F6 := (F5).tr f6
        have b6 := hq _ X5.1
        generalize r6 : P (lxN f z x) = u6 at q6 b6
        rcases u6 with p6 | ⟨y6, c6, v6⟩
        · have D6 : DJm M6 t f z p6 o e := q6
          refine wp_istore_n (loc' := [(2, 69), (0, v), (0, 0), (0, w6)]) dX8_added3_48 rfl (Nat.le_of_ble_eq_true rfl) rfl ?_
          refine wp_iload_n dX8_added3_49 rfl rfl ?_
          refine wp_if_eq (tgt := 59) dX8_added3_50 (by decide) (fun _ => ?_) (fun h => absurd h (by decide))
          refine wp_iload_n dX8_added3_59 rfl rfl ?_
          refine wp_iload_n dX8_added3_60 rfl rfl ?_
          refine wp_isubw dX8_added3_61 ?_
          refine wp_istore_n (loc' := [(2, 69), (0, (wrap (v - w6))), (0, 0), (0, w6)]) dX8_added3_62 rfl (Nat.le_of_ble_eq_true rfl) rfl ?_
          refine wp_goto (tgt := 5) dX8_added3_63 (by decide) ?_
          have eo : opS (lxT f z x) = -13 := (if_neg t1).trans (if_pos t4)
          have ee : gL f z opS P (m + 1) x ce vl = pbd (P (lxN f z x)) (fun y c' v' => gL f z opS P m y (ce ++ c' ++ [opS (lxT f z x)]) (fun e => jn (opS (lxT f z x)) (vl e) (v' e))) := if_neg (by rw [eo]; decide)
          rw [ee, r6] at k
          exact lqd_added3 hn (by omega) (D6) (fun M9 w9 f9 d9 => k M9 w9 ⟨(F6).tr f9, d9⟩)
        · obtain ⟨J6, e6⟩ : RJm M6 t f z y6 o e ∧ w6 = v6 e := q6
          obtain ⟨b6, B6, _⟩ : (lxN f z x) + c6.length ≤ y6 ∧ (y6 : Int) ≤ z ∧ _ := b6
          refine wp_istore_n (loc' := [(2, 69), (0, v), (0, 0), (0, w6)]) dX8_added3_48 rfl (Nat.le_of_ble_eq_true rfl) rfl ?_
          refine wp_iload_n dX8_added3_49 rfl rfl ?_
          refine wp_if_eq (tgt := 59) dX8_added3_50 (by decide) (fun _ => ?_) (fun h => absurd h (by decide))
          refine wp_iload_n dX8_added3_59 rfl rfl ?_
          refine wp_iload_n dX8_added3_60 rfl rfl ?_
          refine wp_isubw dX8_added3_61 ?_
          refine wp_istore_n (loc' := [(2, 69), (0, (wrap (v - w6))), (0, 0), (0, w6)]) dX8_added3_62 rfl (Nat.le_of_ble_eq_true rfl) rfl ?_
          refine wp_goto (tgt := 5) dX8_added3_63 (by decide) ?_
          have eo : opS (lxT f z x) = -13 := (if_neg t1).trans (if_pos t4)
          have ee : gL f z opS P (m + 1) x ce vl = pbd (P (lxN f z x)) (fun y c' v' => gL f z opS P m y (ce ++ c' ++ [opS (lxT f z x)]) (fun e => jn (opS (lxT f z x)) (vl e) (v' e))) := if_neg (by rw [eo]; decide)
          rw [ee, r6] at k
          have hv2 : (wrap (v - w6)) = jn (opS (lxT f z x)) (vl e) (v6 e) := by
            rw [eo, ← hv, ← e6, jn13]
          have hg := X5.2.2 (by omega)
          exact ih y6 _ (fun e => jn (opS (lxT f z x)) (vl e) (v6 e)) _ _ _ _ Q (by omega) J6 B6 hv2 (fun M9 w9 q9 => k M9 w9 ⟨(F6).tr q9.1, q9.2⟩)
      · refine wp_if_eq (tgt := 66) dX8_added3_20 (by decide) (fun _ => ?_) (fun h => absurd h (by decide))
        refine wp_iload_n dX8_added3_66 rfl rfl ?_
        refine wp_iret rfl dX8_added3_67 ?_
        have ee : gL f z opS P (m + 1) x ce vl = .inr (x, ce, vl) := if_pos (show opS (lxT f z x) = 0 from (if_neg t1).trans (if_neg t4))
        rw [ee] at k
        exact k _ _ ⟨Fr.rf, hJ, hv⟩
set_option maxRecDepth 20000 in
set_option maxHeartbeats 4000000 in
theorem cm_added3 {l : Launch} {g : Gw} {n : Nat} (hn : 90 ≤ n) {t : Nat} {f : Nat → Int} {z : Int} {e : Int → Int} {B : Nat} (hB8 : 12 ≤ B) (hB : BT f z) {o : Int} {P : Nat → PR} (hs : CMm l g n t f z e m_X8_term3 [(9, 0)] B o P) (hq : ∀ x : Nat, (x : Int) ≤ z → PQ z x (P x)) : CMm l g n t f z e m_X8_added3 [(9, 0), (9, 0), (9, 0)] (B + 1) o (gBn f z opS 160 P) := by
  intro d M0 Q x hd hJ hx k
  have hz1 := hJ.1.2.2.2.2.2.1
  refine wp_aload_n dX8_added3_0 rfl rfl ?_
  refine wp_callV0 (d' := d - 1) cv_RX8_276 69 rfl [] [] rfl rfl (Or.inl ⟨_, _, rfl, by decide, rfl, by omega, by omega⟩) (by omega) (Nat.le_of_ble_eq_true rfl) dX8_added3_1 rfl (Nat.le_of_ble_eq_true rfl) (by omega) (loc1 := [(2, 69), (9, 0)]) rfl ?_
  refine hs _ _ _ _ (by omega) hJ hx (fun M1 w1 q1 => ?_)
  obtain ⟨f1, q1⟩ := q1
  have F1 := ((Fr.rf : Fr VMr M0 M0)).tr f1
  have b1 := hq _ hx
  generalize r1 : P x = u1 at q1 b1
  rcases u1 with p1 | ⟨y1, c1, v1⟩
  · have D1 : DJm M1 t f z p1 o e := q1
    refine wp_istore_n (loc' := [(2, 69), (0, w1), (9, 0), (9, 0)]) dX8_added3_4 rfl (Nat.le_of_ble_eq_true rfl) rfl ?_
    have ee : gBn f z opS 160 P x = pbd (P x) (fun y c v => gL f z opS P 160 y c v) := rfl
    rw [ee, r1] at k
    exact lqd_added3 hn (by omega) (D1) (fun M9 w9 f9 d9 => k M9 w9 ⟨(F1).tr f9, d9⟩)
  · obtain ⟨J1, e1⟩ : RJm M1 t f z y1 o e ∧ w1 = v1 e := q1
    obtain ⟨b1, B1, _⟩ : x + c1.length ≤ y1 ∧ (y1 : Int) ≤ z ∧ _ := b1
    refine wp_istore_n (loc' := [(2, 69), (0, w1), (9, 0), (9, 0)]) dX8_added3_4 rfl (Nat.le_of_ble_eq_true rfl) rfl ?_
    have ee : gBn f z opS 160 P x = pbd (P x) (fun y c v => gL f z opS P 160 y c v) := rfl
    rw [ee, r1] at k
    exact lq_added3 hn hB8 hB hs hq hd 160 y1 c1 v1 w1 _ _ _ Q (by omega) J1 B1 e1 (fun M9 w9 q9 => k M9 w9 ⟨(F1).tr q9.1, q9.2⟩)
set_option maxRecDepth 20000 in
set_option maxHeartbeats 4000000 in
theorem lq_both3 {l : Launch} {g : Gw} {n : Nat} (hn : 90 ≤ n) {t : Nat} {f : Nat → Int} {z : Int} {e : Int → Int} {B : Nat} (hB8 : 12 ≤ B) (hB : BT f z) {o : Int} {P : Nat → PR} (hs : CMm l g n t f z e m_X8_not3 [(9, 0), (9, 0), (9, 0)] B o P) (hq : ∀ x : Nat, (x : Int) ≤ z → PQ z x (P x)) {d : Nat} (hd : B + 1 ≤ d) : ∀ (m x : Nat) (ce : List Int) (vl : Vl) (v : Int) (u2 : Wd) (M0 : Mm) (Q : Option Wd → Mm → Prop), z ≤ (x : Int) + m → RJm M0 t f z x o e → (x : Int) ≤ z → v = vl e → (∀ M' w, PoM M0 t f z o e (gL f z opA P m x ce vl) M' w → Q (some (0, w)) M') → Wp l g d 0 0 n m_X8_both3 5 [] [(2, 69), (0, v), u2] M0 Q := by
  intro m
  induction m with
  | zero =>
    intro x ce vl v u2 M0 Q hm hJ hx hv k
    refine wp_aload_n dX8_both3_5 rfl rfl ?_
    refine wp_bipush dX8_both3_6 (by decide) (by decide) ?_
    refine wp_bipush dX8_both3_8 (by decide) (by decide) ?_
    refine wp_bipush dX8_both3_10 (by decide) (by decide) ?_
    refine wp_iconst dX8_both3_12 (by decide) ?_
    refine wp_iconst dX8_both3_13 (by decide) ?_
    refine wp_iconst dX8_both3_14 (by decide) ?_
    refine wp_iconst dX8_both3_15 (by decide) ?_
    refine wp_iconst dX8_both3_16 (by decide) ?_
    refine wp_callV0 (d' := d - 1) cv_RX8_200 69 rfl [(0, 97), (0, 110), (0, 100), (0, 0), (0, 0), (0, 0), (0, 0), (0, 0)] [] rfl rfl (Or.inl ⟨_, _, rfl, by decide, rfl, by omega, by omega⟩) (by omega) (Nat.le_of_ble_eq_true rfl) dX8_both3_17 rfl (Nat.le_of_ble_eq_true rfl) (by omega) (loc1 := [(2, 69), (0, 97), (0, 110), (0, 100), (0, 0), (0, 0), (0, 0), (0, 0), (0, 0)]) rfl ?_
    refine sp_isWm_4 hn (by omega) hJ hx (fun t1 => absurd t1 (by rw [lxT_end (by omega)]; decide)) (fun t1 => ?_)
    refine wp_if_eq (tgt := 49) dX8_both3_20 (by decide) (fun _ => ?_) (fun h => absurd h (by decide))
    refine wp_iload_n dX8_both3_49 rfl rfl ?_
    refine wp_iret rfl dX8_both3_50 ?_
    exact k _ _ ⟨Fr.rf, hJ, hv⟩
  | succ m ih =>
    intro x ce vl v u2 M0 Q hm hJ hx hv k
    refine wp_aload_n dX8_both3_5 rfl rfl ?_
    refine wp_bipush dX8_both3_6 (by decide) (by decide) ?_
    refine wp_bipush dX8_both3_8 (by decide) (by decide) ?_
    refine wp_bipush dX8_both3_10 (by decide) (by decide) ?_
    refine wp_iconst dX8_both3_12 (by decide) ?_
    refine wp_iconst dX8_both3_13 (by decide) ?_
    refine wp_iconst dX8_both3_14 (by decide) ?_
    refine wp_iconst dX8_both3_15 (by decide) ?_
    refine wp_iconst dX8_both3_16 (by decide) ?_
    refine wp_callV0 (d' := d - 1) cv_RX8_200 69 rfl [(0, 97), (0, 110), (0, 100), (0, 0), (0, 0), (0, 0), (0, 0), (0, 0)] [] rfl rfl (Or.inl ⟨_, _, rfl, by decide, rfl, by omega, by omega⟩) (by omega) (Nat.le_of_ble_eq_true rfl) dX8_both3_17 rfl (Nat.le_of_ble_eq_true rfl) (by omega) (loc1 := [(2, 69), (0, 97), (0, 110), (0, 100), (0, 0), (0, 0), (0, 0), (0, 0), (0, 0)]) rfl ?_
    refine sp_isWm_4 hn (by omega) hJ hx (fun t1 => ?_) (fun t1 => ?_)
    · refine wp_if_eq (tgt := 49) dX8_both3_20 (by decide) (fun h => absurd h (by decide)) (fun _ => ?_)
      refine wp_aload_n dX8_both3_23 rfl rfl ?_
      refine wp_callV0 (d' := d - 1) cv_RX8_197 69 rfl [] [] rfl rfl (Or.inl ⟨_, _, rfl, by decide, rfl, by omega, by omega⟩) (by omega) (Nat.le_of_ble_eq_true rfl) dX8_both3_24 rfl (Nat.le_of_ble_eq_true rfl) (by omega) (loc1 := [(2, 69), (9, 0), (9, 0)]) rfl ?_
      refine sp_next hn (by omega) hB (hJ).1 ((hJ).2.1.2.1 ((hJ).2.1.2.2.ne4 (by omega))) (lxN_le hx).1 (fun M2 f2 l2 => ?_)
      have J2 := (hJ).step f2 l2
      have F2 := ((Fr.rf : Fr VMr M0 M0)).tr (f2.mono VM1.r)
      have X2 := lxN_le (f := f) hx
      have Y2 := lxA_le (f := f) hx
      refine wp_aload_n dX8_both3_27 rfl rfl ?_
      refine wp_callV0 (d' := d - 1) cv_RX8_282 69 rfl [] [] rfl rfl (Or.inl ⟨_, _, rfl, by decide, rfl, by omega, by omega⟩) (by omega) (Nat.le_of_ble_eq_true rfl) dX8_both3_28 rfl (Nat.le_of_ble_eq_true rfl) (by omega) (loc1 := [(2, 69), (9, 0), (9, 0), (9, 0)]) rfl ?_
      refine hs _ _ _ _ (by omega) J2 X2.1 (fun M3 w3 q3 => ?_)
      obtain ⟨f3, q3⟩ := q3
      have F3 := (F2).tr f3
      have b3 := hq _ X2.1
      generalize r3 : P (lxN f z x) = u3 at q3 b3
      rcases u3 with p3 | ⟨y3, c3, v3⟩
      · have D3 : DJm M3 t f z p3 o e := q3
        refine wp_istore_n (loc' := [(2, 69), (0, v), (0, w3)]) dX8_both3_31 rfl (Nat.le_of_ble_eq_true rfl) rfl ?_
        refine wp_iload_n dX8_both3_32 rfl rfl ?_
        refine wp_if_eq (tgt := 44) dX8_both3_33 (by decide) (fun h33 => ?_) (fun h33 => ?_)
        · refine wp_iconst dX8_both3_44 (by decide) ?_
          refine wp_istore_n (loc' := [(2, 69), (0, 0), (0, w3)]) dX8_both3_45 rfl (Nat.le_of_ble_eq_true rfl) rfl ?_
          refine wp_goto (tgt := 5) dX8_both3_46 (by decide) ?_
          have eo : opA (lxT f z x) = -8 := if_pos t1
          have ee : gL f z opA P (m + 1) x ce vl = pbd (P (lxN f z x)) (fun y c' v' => gL f z opA P m y (ce ++ c' ++ [opA (lxT f z x)]) (fun e => jn (opA (lxT f z x)) (vl e) (v' e))) := if_neg (by rw [eo]; decide)
          rw [ee, r3] at k
          exact lqd_both3 hn (by omega) (D3) (fun M9 w9 f9 d9 => k M9 w9 ⟨(F3).tr f9, d9⟩)
        · refine wp_iload_n dX8_both3_36 rfl rfl ?_
          refine wp_if_eq (tgt := 44) dX8_both3_37 (by decide) (fun h37 => ?_) (fun h37 => ?_)
          · refine wp_iconst dX8_both3_44 (by decide) ?_
            refine wp_istore_n (loc' := [(2, 69), (0, 0), (0, w3)]) dX8_both3_45 rfl (Nat.le_of_ble_eq_true rfl) rfl ?_
            refine wp_goto (tgt := 5) dX8_both3_46 (by decide) ?_
            have eo : opA (lxT f z x) = -8 := if_pos t1
            have ee : gL f z opA P (m + 1) x ce vl = pbd (P (lxN f z x)) (fun y c' v' => gL f z opA P m y (ce ++ c' ++ [opA (lxT f z x)]) (fun e => jn (opA (lxT f z x)) (vl e) (v' e))) := if_neg (by rw [eo]; decide)
            rw [ee, r3] at k
            exact lqd_both3 hn (by omega) (D3) (fun M9 w9 f9 d9 => k M9 w9 ⟨(F3).tr f9, d9⟩)
          · refine wp_iconst dX8_both3_40 (by decide) ?_
            refine wp_goto (tgt := 45) dX8_both3_41 (by decide) ?_
            refine wp_istore_n (loc' := [(2, 69), (0, 1), (0, w3)]) dX8_both3_45 rfl (Nat.le_of_ble_eq_true rfl) rfl ?_
            refine wp_goto (tgt := 5) dX8_both3_46 (by decide) ?_
            have eo : opA (lxT f z x) = -8 := if_pos t1
            have ee : gL f z opA P (m + 1) x ce vl = pbd (P (lxN f z x)) (fun y c' v' => gL f z opA P m y (ce ++ c' ++ [opA (lxT f z x)]) (fun e => jn (opA (lxT f z x)) (vl e) (v' e))) := if_neg (by rw [eo]; decide)
            rw [ee, r3] at k
            exact lqd_both3 hn (by omega) (D3) (fun M9 w9 f9 d9 => k M9 w9 ⟨(F3).tr f9, d9⟩)
      · obtain ⟨J3, e3⟩ : RJm M3 t f z y3 o e ∧ w3 = v3 e := q3
        obtain ⟨b3, B3, _⟩ : (lxN f z x) + c3.length ≤ y3 ∧ (y3 : Int) ≤ z ∧ _ := b3
        refine wp_istore_n (loc' := [(2, 69), (0, v), (0, w3)]) dX8_both3_31 rfl (Nat.le_of_ble_eq_true rfl) rfl ?_
        refine wp_iload_n dX8_both3_32 rfl rfl ?_
        refine wp_if_eq (tgt := 44) dX8_both3_33 (by decide) (fun h33 => ?_) (fun h33 => ?_)
        · refine wp_iconst dX8_both3_44 (by decide) ?_
          refine wp_istore_n (loc' := [(2, 69), (0, 0), (0, w3)]) dX8_both3_45 rfl (Nat.le_of_ble_eq_true rfl) rfl ?_
          refine wp_goto (tgt := 5) dX8_both3_46 (by decide) ?_
          have eo : opA (lxT f z x) = -8 := if_pos t1
          have ee : gL f z opA P (m + 1) x ce vl = pbd (P (lxN f z x)) (fun y c' v' => gL f z opA P m y (ce ++ c' ++ [opA (lxT f z x)]) (fun e => jn (opA (lxT f z x)) (vl e) (v' e))) := if_neg (by rw [eo]; decide)
          rw [ee, r3] at k
          have hv2 : 0 = jn (opA (lxT f z x)) (vl e) (v3 e) := by
            rw [eo, ← hv, ← e3, jn8]
            first | exact (if_pos (by omega)).symm | exact (if_neg (by omega)).symm
          have hg := X2.2.2 (by omega)
          exact ih y3 _ (fun e => jn (opA (lxT f z x)) (vl e) (v3 e)) _ _ _ Q (by omega) J3 B3 hv2 (fun M9 w9 q9 => k M9 w9 ⟨(F3).tr q9.1, q9.2⟩)
        · refine wp_iload_n dX8_both3_36 rfl rfl ?_
          refine wp_if_eq (tgt := 44) dX8_both3_37 (by decide) (fun h37 => ?_) (fun h37 => ?_)
          · refine wp_iconst dX8_both3_44 (by decide) ?_
            refine wp_istore_n (loc' := [(2, 69), (0, 0), (0, w3)]) dX8_both3_45 rfl (Nat.le_of_ble_eq_true rfl) rfl ?_
            refine wp_goto (tgt := 5) dX8_both3_46 (by decide) ?_
            have eo : opA (lxT f z x) = -8 := if_pos t1
            have ee : gL f z opA P (m + 1) x ce vl = pbd (P (lxN f z x)) (fun y c' v' => gL f z opA P m y (ce ++ c' ++ [opA (lxT f z x)]) (fun e => jn (opA (lxT f z x)) (vl e) (v' e))) := if_neg (by rw [eo]; decide)
            rw [ee, r3] at k
            have hv2 : 0 = jn (opA (lxT f z x)) (vl e) (v3 e) := by
              rw [eo, ← hv, ← e3, jn8]
              first | exact (if_pos (by omega)).symm | exact (if_neg (by omega)).symm
            have hg := X2.2.2 (by omega)
            exact ih y3 _ (fun e => jn (opA (lxT f z x)) (vl e) (v3 e)) _ _ _ Q (by omega) J3 B3 hv2 (fun M9 w9 q9 => k M9 w9 ⟨(F3).tr q9.1, q9.2⟩)
          · refine wp_iconst dX8_both3_40 (by decide) ?_
            refine wp_goto (tgt := 45) dX8_both3_41 (by decide) ?_
            refine wp_istore_n (loc' := [(2, 69), (0, 1), (0, w3)]) dX8_both3_45 rfl (Nat.le_of_ble_eq_true rfl) rfl ?_
            refine wp_goto (tgt := 5) dX8_both3_46 (by decide) ?_
            have eo : opA (lxT f z x) = -8 := if_pos t1
            have ee : gL f z opA P (m + 1) x ce vl = pbd (P (lxN f z x)) (fun y c' v' => gL f z opA P m y (ce ++ c' ++ [opA (lxT f z x)]) (fun e => jn (opA (lxT f z x)) (vl e) (v' e))) := if_neg (by rw [eo]; decide)
            rw [ee, r3] at k
            have hv2 : 1 = jn (opA (lxT f z x)) (vl e) (v3 e) := by
              rw [eo, ← hv, ← e3, jn8]
              first | exact (if_pos (by omega)).symm | exact (if_neg (by omega)).symm
            have hg := X2.2.2 (by omega)
            exact ih y3 _ (fun e => jn (opA (lxT f z x)) (vl e) (v3 e)) _ _ _ Q (by omega) J3 B3 hv2 (fun M9 w9 q9 => k M9 w9 ⟨(F3).tr q9.1, q9.2⟩)
    · refine wp_if_eq (tgt := 49) dX8_both3_20 (by decide) (fun _ => ?_) (fun h => absurd h (by decide))
      refine wp_iload_n dX8_both3_49 rfl rfl ?_
      refine wp_iret rfl dX8_both3_50 ?_
      have ee : gL f z opA P (m + 1) x ce vl = .inr (x, ce, vl) := if_pos (show opA (lxT f z x) = 0 from if_neg t1)
      rw [ee] at k
      exact k _ _ ⟨Fr.rf, hJ, hv⟩
set_option maxRecDepth 20000 in
set_option maxHeartbeats 4000000 in
theorem cm_both3 {l : Launch} {g : Gw} {n : Nat} (hn : 90 ≤ n) {t : Nat} {f : Nat → Int} {z : Int} {e : Int → Int} {B : Nat} (hB8 : 12 ≤ B) (hB : BT f z) {o : Int} {P : Nat → PR} (hs : CMm l g n t f z e m_X8_not3 [(9, 0), (9, 0), (9, 0)] B o P) (hq : ∀ x : Nat, (x : Int) ≤ z → PQ z x (P x)) : CMm l g n t f z e m_X8_both3 [(9, 0), (9, 0)] (B + 1) o (gBn f z opA 160 P) := by
  intro d M0 Q x hd hJ hx k
  have hz1 := hJ.1.2.2.2.2.2.1
  refine wp_aload_n dX8_both3_0 rfl rfl ?_
  refine wp_callV0 (d' := d - 1) cv_RX8_282 69 rfl [] [] rfl rfl (Or.inl ⟨_, _, rfl, by decide, rfl, by omega, by omega⟩) (by omega) (Nat.le_of_ble_eq_true rfl) dX8_both3_1 rfl (Nat.le_of_ble_eq_true rfl) (by omega) (loc1 := [(2, 69), (9, 0), (9, 0), (9, 0)]) rfl ?_
  refine hs _ _ _ _ (by omega) hJ hx (fun M1 w1 q1 => ?_)
  obtain ⟨f1, q1⟩ := q1
  have F1 := ((Fr.rf : Fr VMr M0 M0)).tr f1
  have b1 := hq _ hx
  generalize r1 : P x = u1 at q1 b1
  rcases u1 with p1 | ⟨y1, c1, v1⟩
  · have D1 : DJm M1 t f z p1 o e := q1
    refine wp_istore_n (loc' := [(2, 69), (0, w1), (9, 0)]) dX8_both3_4 rfl (Nat.le_of_ble_eq_true rfl) rfl ?_
    have ee : gBn f z opA 160 P x = pbd (P x) (fun y c v => gL f z opA P 160 y c v) := rfl
    rw [ee, r1] at k
    exact lqd_both3 hn (by omega) (D1) (fun M9 w9 f9 d9 => k M9 w9 ⟨(F1).tr f9, d9⟩)
  · obtain ⟨J1, e1⟩ : RJm M1 t f z y1 o e ∧ w1 = v1 e := q1
    obtain ⟨b1, B1, _⟩ : x + c1.length ≤ y1 ∧ (y1 : Int) ≤ z ∧ _ := b1
    refine wp_istore_n (loc' := [(2, 69), (0, w1), (9, 0)]) dX8_both3_4 rfl (Nat.le_of_ble_eq_true rfl) rfl ?_
    have ee : gBn f z opA 160 P x = pbd (P x) (fun y c v => gL f z opA P 160 y c v) := rfl
    rw [ee, r1] at k
    exact lq_both3 hn hB8 hB hs hq hd 160 y1 c1 v1 w1 _ _ Q (by omega) J1 B1 e1 (fun M9 w9 q9 => k M9 w9 ⟨(F1).tr q9.1, q9.2⟩)
set_option maxRecDepth 20000 in
set_option maxHeartbeats 4000000 in
theorem lq_either3 {l : Launch} {g : Gw} {n : Nat} (hn : 90 ≤ n) {t : Nat} {f : Nat → Int} {z : Int} {e : Int → Int} {B : Nat} (hB8 : 12 ≤ B) (hB : BT f z) {o : Int} {P : Nat → PR} (hs : CMm l g n t f z e m_X8_both3 [(9, 0), (9, 0)] B o P) (hq : ∀ x : Nat, (x : Int) ≤ z → PQ z x (P x)) {d : Nat} (hd : B + 1 ≤ d) : ∀ (m x : Nat) (ce : List Int) (vl : Vl) (v : Int) (u2 : Wd) (M0 : Mm) (Q : Option Wd → Mm → Prop), z ≤ (x : Int) + m → RJm M0 t f z x o e → (x : Int) ≤ z → v = vl e → (∀ M' w, PoM M0 t f z o e (gL f z opO P m x ce vl) M' w → Q (some (0, w)) M') → Wp l g d 0 0 n m_X8_either3 5 [] [(2, 69), (0, v), u2] M0 Q := by
  intro m
  induction m with
  | zero =>
    intro x ce vl v u2 M0 Q hm hJ hx hv k
    refine wp_aload_n dX8_either3_5 rfl rfl ?_
    refine wp_bipush dX8_either3_6 (by decide) (by decide) ?_
    refine wp_bipush dX8_either3_8 (by decide) (by decide) ?_
    refine wp_iconst dX8_either3_10 (by decide) ?_
    refine wp_iconst dX8_either3_11 (by decide) ?_
    refine wp_iconst dX8_either3_12 (by decide) ?_
    refine wp_iconst dX8_either3_13 (by decide) ?_
    refine wp_iconst dX8_either3_14 (by decide) ?_
    refine wp_iconst dX8_either3_15 (by decide) ?_
    refine wp_callV0 (d' := d - 1) cv_RX8_200 69 rfl [(0, 111), (0, 114), (0, 0), (0, 0), (0, 0), (0, 0), (0, 0), (0, 0)] [] rfl rfl (Or.inl ⟨_, _, rfl, by decide, rfl, by omega, by omega⟩) (by omega) (Nat.le_of_ble_eq_true rfl) dX8_either3_16 rfl (Nat.le_of_ble_eq_true rfl) (by omega) (loc1 := [(2, 69), (0, 111), (0, 114), (0, 0), (0, 0), (0, 0), (0, 0), (0, 0), (0, 0)]) rfl ?_
    refine sp_isWm_3 hn (by omega) hJ hx (fun t1 => absurd t1 (by rw [lxT_end (by omega)]; decide)) (fun t1 => ?_)
    refine wp_if_eq (tgt := 48) dX8_either3_19 (by decide) (fun _ => ?_) (fun h => absurd h (by decide))
    refine wp_iload_n dX8_either3_48 rfl rfl ?_
    refine wp_iret rfl dX8_either3_49 ?_
    exact k _ _ ⟨Fr.rf, hJ, hv⟩
  | succ m ih =>
    intro x ce vl v u2 M0 Q hm hJ hx hv k
    refine wp_aload_n dX8_either3_5 rfl rfl ?_
    refine wp_bipush dX8_either3_6 (by decide) (by decide) ?_
    refine wp_bipush dX8_either3_8 (by decide) (by decide) ?_
    refine wp_iconst dX8_either3_10 (by decide) ?_
    refine wp_iconst dX8_either3_11 (by decide) ?_
    refine wp_iconst dX8_either3_12 (by decide) ?_
    refine wp_iconst dX8_either3_13 (by decide) ?_
    refine wp_iconst dX8_either3_14 (by decide) ?_
    refine wp_iconst dX8_either3_15 (by decide) ?_
    refine wp_callV0 (d' := d - 1) cv_RX8_200 69 rfl [(0, 111), (0, 114), (0, 0), (0, 0), (0, 0), (0, 0), (0, 0), (0, 0)] [] rfl rfl (Or.inl ⟨_, _, rfl, by decide, rfl, by omega, by omega⟩) (by omega) (Nat.le_of_ble_eq_true rfl) dX8_either3_16 rfl (Nat.le_of_ble_eq_true rfl) (by omega) (loc1 := [(2, 69), (0, 111), (0, 114), (0, 0), (0, 0), (0, 0), (0, 0), (0, 0), (0, 0)]) rfl ?_
    refine sp_isWm_3 hn (by omega) hJ hx (fun t1 => ?_) (fun t1 => ?_)
    · refine wp_if_eq (tgt := 48) dX8_either3_19 (by decide) (fun h => absurd h (by decide)) (fun _ => ?_)
      refine wp_aload_n dX8_either3_22 rfl rfl ?_
      refine wp_callV0 (d' := d - 1) cv_RX8_197 69 rfl [] [] rfl rfl (Or.inl ⟨_, _, rfl, by decide, rfl, by omega, by omega⟩) (by omega) (Nat.le_of_ble_eq_true rfl) dX8_either3_23 rfl (Nat.le_of_ble_eq_true rfl) (by omega) (loc1 := [(2, 69), (9, 0), (9, 0)]) rfl ?_
      refine sp_next hn (by omega) hB (hJ).1 ((hJ).2.1.2.1 ((hJ).2.1.2.2.ne4 (by omega))) (lxN_le hx).1 (fun M2 f2 l2 => ?_)
      have J2 := (hJ).step f2 l2
      have F2 := ((Fr.rf : Fr VMr M0 M0)).tr (f2.mono VM1.r)
      have X2 := lxN_le (f := f) hx
      have Y2 := lxA_le (f := f) hx
      refine wp_aload_n dX8_either3_26 rfl rfl ?_
      refine wp_callV0 (d' := d - 1) cv_RX8_285 69 rfl [] [] rfl rfl (Or.inl ⟨_, _, rfl, by decide, rfl, by omega, by omega⟩) (by omega) (Nat.le_of_ble_eq_true rfl) dX8_either3_27 rfl (Nat.le_of_ble_eq_true rfl) (by omega) (loc1 := [(2, 69), (9, 0), (9, 0)]) rfl ?_
      refine hs _ _ _ _ (by omega) J2 X2.1 (fun M3 w3 q3 => ?_)
      obtain ⟨f3, q3⟩ := q3
      have F3 := (F2).tr f3
      have b3 := hq _ X2.1
      generalize r3 : P (lxN f z x) = u3 at q3 b3
      rcases u3 with p3 | ⟨y3, c3, v3⟩
      · have D3 : DJm M3 t f z p3 o e := q3
        refine wp_istore_n (loc' := [(2, 69), (0, v), (0, w3)]) dX8_either3_30 rfl (Nat.le_of_ble_eq_true rfl) rfl ?_
        refine wp_iload_n dX8_either3_31 rfl rfl ?_
        refine wp_if_ne (tgt := 39) dX8_either3_32 (by decide) (fun h32 => ?_) (fun h32 => ?_)
        · refine wp_iconst dX8_either3_39 (by decide) ?_
          refine wp_goto (tgt := 44) dX8_either3_40 (by decide) ?_
          refine wp_istore_n (loc' := [(2, 69), (0, 1), (0, w3)]) dX8_either3_44 rfl (Nat.le_of_ble_eq_true rfl) rfl ?_
          refine wp_goto (tgt := 5) dX8_either3_45 (by decide) ?_
          have eo : opO (lxT f z x) = -7 := if_pos t1
          have ee : gL f z opO P (m + 1) x ce vl = pbd (P (lxN f z x)) (fun y c' v' => gL f z opO P m y (ce ++ c' ++ [opO (lxT f z x)]) (fun e => jn (opO (lxT f z x)) (vl e) (v' e))) := if_neg (by rw [eo]; decide)
          rw [ee, r3] at k
          exact lqd_either3 hn (by omega) (D3) (fun M9 w9 f9 d9 => k M9 w9 ⟨(F3).tr f9, d9⟩)
        · refine wp_iload_n dX8_either3_35 rfl rfl ?_
          refine wp_if_eq (tgt := 43) dX8_either3_36 (by decide) (fun h36 => ?_) (fun h36 => ?_)
          · refine wp_iconst dX8_either3_43 (by decide) ?_
            refine wp_istore_n (loc' := [(2, 69), (0, 0), (0, w3)]) dX8_either3_44 rfl (Nat.le_of_ble_eq_true rfl) rfl ?_
            refine wp_goto (tgt := 5) dX8_either3_45 (by decide) ?_
            have eo : opO (lxT f z x) = -7 := if_pos t1
            have ee : gL f z opO P (m + 1) x ce vl = pbd (P (lxN f z x)) (fun y c' v' => gL f z opO P m y (ce ++ c' ++ [opO (lxT f z x)]) (fun e => jn (opO (lxT f z x)) (vl e) (v' e))) := if_neg (by rw [eo]; decide)
            rw [ee, r3] at k
            exact lqd_either3 hn (by omega) (D3) (fun M9 w9 f9 d9 => k M9 w9 ⟨(F3).tr f9, d9⟩)
          · refine wp_iconst dX8_either3_39 (by decide) ?_
            refine wp_goto (tgt := 44) dX8_either3_40 (by decide) ?_
            refine wp_istore_n (loc' := [(2, 69), (0, 1), (0, w3)]) dX8_either3_44 rfl (Nat.le_of_ble_eq_true rfl) rfl ?_
            refine wp_goto (tgt := 5) dX8_either3_45 (by decide) ?_
            have eo : opO (lxT f z x) = -7 := if_pos t1
            have ee : gL f z opO P (m + 1) x ce vl = pbd (P (lxN f z x)) (fun y c' v' => gL f z opO P m y (ce ++ c' ++ [opO (lxT f z x)]) (fun e => jn (opO (lxT f z x)) (vl e) (v' e))) := if_neg (by rw [eo]; decide)
            rw [ee, r3] at k
            exact lqd_either3 hn (by omega) (D3) (fun M9 w9 f9 d9 => k M9 w9 ⟨(F3).tr f9, d9⟩)
      · obtain ⟨J3, e3⟩ : RJm M3 t f z y3 o e ∧ w3 = v3 e := q3
        obtain ⟨b3, B3, _⟩ : (lxN f z x) + c3.length ≤ y3 ∧ (y3 : Int) ≤ z ∧ _ := b3
        refine wp_istore_n (loc' := [(2, 69), (0, v), (0, w3)]) dX8_either3_30 rfl (Nat.le_of_ble_eq_true rfl) rfl ?_
        refine wp_iload_n dX8_either3_31 rfl rfl ?_
        refine wp_if_ne (tgt := 39) dX8_either3_32 (by decide) (fun h32 => ?_) (fun h32 => ?_)
        · refine wp_iconst dX8_either3_39 (by decide) ?_
          refine wp_goto (tgt := 44) dX8_either3_40 (by decide) ?_
          refine wp_istore_n (loc' := [(2, 69), (0, 1), (0, w3)]) dX8_either3_44 rfl (Nat.le_of_ble_eq_true rfl) rfl ?_
          refine wp_goto (tgt := 5) dX8_either3_45 (by decide) ?_
          have eo : opO (lxT f z x) = -7 := if_pos t1
          have ee : gL f z opO P (m + 1) x ce vl = pbd (P (lxN f z x)) (fun y c' v' => gL f z opO P m y (ce ++ c' ++ [opO (lxT f z x)]) (fun e => jn (opO (lxT f z x)) (vl e) (v' e))) := if_neg (by rw [eo]; decide)
          rw [ee, r3] at k
          have hv2 : 1 = jn (opO (lxT f z x)) (vl e) (v3 e) := by
            rw [eo, ← hv, ← e3, jn7]
            first | exact (if_pos (by omega)).symm | exact (if_neg (by omega)).symm
          have hg := X2.2.2 (by omega)
          exact ih y3 _ (fun e => jn (opO (lxT f z x)) (vl e) (v3 e)) _ _ _ Q (by omega) J3 B3 hv2 (fun M9 w9 q9 => k M9 w9 ⟨(F3).tr q9.1, q9.2⟩)
        · refine wp_iload_n dX8_either3_35 rfl rfl ?_
          refine wp_if_eq (tgt := 43) dX8_either3_36 (by decide) (fun h36 => ?_) (fun h36 => ?_)
          · refine wp_iconst dX8_either3_43 (by decide) ?_
            refine wp_istore_n (loc' := [(2, 69), (0, 0), (0, w3)]) dX8_either3_44 rfl (Nat.le_of_ble_eq_true rfl) rfl ?_
            refine wp_goto (tgt := 5) dX8_either3_45 (by decide) ?_
            have eo : opO (lxT f z x) = -7 := if_pos t1
            have ee : gL f z opO P (m + 1) x ce vl = pbd (P (lxN f z x)) (fun y c' v' => gL f z opO P m y (ce ++ c' ++ [opO (lxT f z x)]) (fun e => jn (opO (lxT f z x)) (vl e) (v' e))) := if_neg (by rw [eo]; decide)
            rw [ee, r3] at k
            have hv2 : 0 = jn (opO (lxT f z x)) (vl e) (v3 e) := by
              rw [eo, ← hv, ← e3, jn7]
              first | exact (if_pos (by omega)).symm | exact (if_neg (by omega)).symm
            have hg := X2.2.2 (by omega)
            exact ih y3 _ (fun e => jn (opO (lxT f z x)) (vl e) (v3 e)) _ _ _ Q (by omega) J3 B3 hv2 (fun M9 w9 q9 => k M9 w9 ⟨(F3).tr q9.1, q9.2⟩)
          · refine wp_iconst dX8_either3_39 (by decide) ?_
            refine wp_goto (tgt := 44) dX8_either3_40 (by decide) ?_
            refine wp_istore_n (loc' := [(2, 69), (0, 1), (0, w3)]) dX8_either3_44 rfl (Nat.le_of_ble_eq_true rfl) rfl ?_
            refine wp_goto (tgt := 5) dX8_either3_45 (by decide) ?_
            have eo : opO (lxT f z x) = -7 := if_pos t1
            have ee : gL f z opO P (m + 1) x ce vl = pbd (P (lxN f z x)) (fun y c' v' => gL f z opO P m y (ce ++ c' ++ [opO (lxT f z x)]) (fun e => jn (opO (lxT f z x)) (vl e) (v' e))) := if_neg (by rw [eo]; decide)
            rw [ee, r3] at k
            have hv2 : 1 = jn (opO (lxT f z x)) (vl e) (v3 e) := by
              rw [eo, ← hv, ← e3, jn7]
              first | exact (if_pos (by omega)).symm | exact (if_neg (by omega)).symm
            have hg := X2.2.2 (by omega)
            exact ih y3 _ (fun e => jn (opO (lxT f z x)) (vl e) (v3 e)) _ _ _ Q (by omega) J3 B3 hv2 (fun M9 w9 q9 => k M9 w9 ⟨(F3).tr q9.1, q9.2⟩)
    · refine wp_if_eq (tgt := 48) dX8_either3_19 (by decide) (fun _ => ?_) (fun h => absurd h (by decide))
      refine wp_iload_n dX8_either3_48 rfl rfl ?_
      refine wp_iret rfl dX8_either3_49 ?_
      have ee : gL f z opO P (m + 1) x ce vl = .inr (x, ce, vl) := if_pos (show opO (lxT f z x) = 0 from if_neg t1)
      rw [ee] at k
      exact k _ _ ⟨Fr.rf, hJ, hv⟩
set_option maxRecDepth 20000 in
set_option maxHeartbeats 4000000 in
theorem cm_either3 {l : Launch} {g : Gw} {n : Nat} (hn : 90 ≤ n) {t : Nat} {f : Nat → Int} {z : Int} {e : Int → Int} {B : Nat} (hB8 : 12 ≤ B) (hB : BT f z) {o : Int} {P : Nat → PR} (hs : CMm l g n t f z e m_X8_both3 [(9, 0), (9, 0)] B o P) (hq : ∀ x : Nat, (x : Int) ≤ z → PQ z x (P x)) : CMm l g n t f z e m_X8_either3 [(9, 0), (9, 0)] (B + 1) o (gBn f z opO 160 P) := by
  intro d M0 Q x hd hJ hx k
  have hz1 := hJ.1.2.2.2.2.2.1
  refine wp_aload_n dX8_either3_0 rfl rfl ?_
  refine wp_callV0 (d' := d - 1) cv_RX8_285 69 rfl [] [] rfl rfl (Or.inl ⟨_, _, rfl, by decide, rfl, by omega, by omega⟩) (by omega) (Nat.le_of_ble_eq_true rfl) dX8_either3_1 rfl (Nat.le_of_ble_eq_true rfl) (by omega) (loc1 := [(2, 69), (9, 0), (9, 0)]) rfl ?_
  refine hs _ _ _ _ (by omega) hJ hx (fun M1 w1 q1 => ?_)
  obtain ⟨f1, q1⟩ := q1
  have F1 := ((Fr.rf : Fr VMr M0 M0)).tr f1
  have b1 := hq _ hx
  generalize r1 : P x = u1 at q1 b1
  rcases u1 with p1 | ⟨y1, c1, v1⟩
  · have D1 : DJm M1 t f z p1 o e := q1
    refine wp_istore_n (loc' := [(2, 69), (0, w1), (9, 0)]) dX8_either3_4 rfl (Nat.le_of_ble_eq_true rfl) rfl ?_
    have ee : gBn f z opO 160 P x = pbd (P x) (fun y c v => gL f z opO P 160 y c v) := rfl
    rw [ee, r1] at k
    exact lqd_either3 hn (by omega) (D1) (fun M9 w9 f9 d9 => k M9 w9 ⟨(F1).tr f9, d9⟩)
  · obtain ⟨J1, e1⟩ : RJm M1 t f z y1 o e ∧ w1 = v1 e := q1
    obtain ⟨b1, B1, _⟩ : x + c1.length ≤ y1 ∧ (y1 : Int) ≤ z ∧ _ := b1
    refine wp_istore_n (loc' := [(2, 69), (0, w1), (9, 0)]) dX8_either3_4 rfl (Nat.le_of_ble_eq_true rfl) rfl ?_
    have ee : gBn f z opO 160 P x = pbd (P x) (fun y c v => gL f z opO P 160 y c v) := rfl
    rw [ee, r1] at k
    exact lq_either3 hn hB8 hB hs hq hd 160 y1 c1 v1 w1 _ _ Q (by omega) J1 B1 e1 (fun M9 w9 q9 => k M9 w9 ⟨(F1).tr q9.1, q9.2⟩)
set_option maxRecDepth 20000 in
set_option maxHeartbeats 4000000 in
theorem cm_atom3 {l : Launch} {g : Gw} {n : Nat} (hn : 90 ≤ n) {t : Nat} {f : Nat → Int} {z : Int} {e : Int → Int} {B : Nat} (hB8 : 12 ≤ B) (hB : BT f z) {o : Int} (ho : 0 ≤ o ∧ o < 5) {q : P3} (hq : OK3 z q) (hs1 : CMm l g n t f z e m_X8_atom4 [(9, 0)] B (o + 1) q.1) (hs3 : CMm l g n t f z e m_X8_either4 [(9, 0), (9, 0)] B (o + 1) q.2.2) : CMm l g n t f z e m_X8_atom3 [(9, 0)] (B + 1) o (oneP f z (some q)) := by
  intro d M0 Q x hd hJ hx k
  have hz1 := hJ.1.2.2.2.2.2.1
  refine wp_iconst dX8_atom3_0 (by decide) ?_
  refine wp_istore_n (loc' := [(2, 69), (0, 0)]) dX8_atom3_1 rfl (Nat.le_of_ble_eq_true rfl) rfl ?_
  refine wp_aload_n dX8_atom3_2 rfl rfl ?_
  refine wp_bipush dX8_atom3_3 (by decide) (by decide) ?_
  refine wp_callV0 (d' := d - 1) cv_RX8_222 69 rfl [(0, 45)] [] rfl rfl (Or.inl ⟨_, _, rfl, by decide, rfl, by omega, by omega⟩) (by omega) (Nat.le_of_ble_eq_true rfl) dX8_atom3_5 rfl (Nat.le_of_ble_eq_true rfl) (by omega) (loc1 := [(2, 69), (0, 45)]) rfl ?_
  refine sp_isSg hn hJ 45 (by decide) (fun t1 => ?_) (fun t1 => ?_)
  · have g1 := ((hJ).2.1.2.2.sgn (s := 45) (by decide)).mpr t1
    refine wp_if_eq (tgt := 37) dX8_atom3_8 (by decide) (fun h => absurd h (by decide)) (fun _ => ?_)
    refine wp_aload_n dX8_atom3_11 rfl rfl ?_
    refine wp_callV0 (d' := d - 1) cv_RX8_225 69 rfl [] [] rfl rfl (Or.inl ⟨_, _, rfl, by decide, rfl, by omega, by omega⟩) (by omega) (Nat.le_of_ble_eq_true rfl) dX8_atom3_12 rfl (Nat.le_of_ble_eq_true rfl) (by omega) (loc1 := [(2, 69)]) rfl ?_
    refine sp_opensm hn (by omega) hB hJ hx ho (by omega) (fun M2 J2 f2 => ?_)
    have F2 := ((Fr.rf : Fr VMr M0 M0)).tr f2
    have X2 := lxN_le (f := f) hx
    have Y2 := lxA_le (f := f) hx
    refine wp_if_eq (tgt := 161) dX8_atom3_15 (by decide) (fun h => absurd h (by decide)) (fun _ => ?_)
    refine wp_aload_n dX8_atom3_18 rfl rfl ?_
    refine wp_callV0 (d' := d - 1) cv_RX8_255 69 rfl [] [] rfl rfl (Or.inl ⟨_, _, rfl, by decide, rfl, by omega, by omega⟩) (by omega) (Nat.le_of_ble_eq_true rfl) dX8_atom3_19 rfl (Nat.le_of_ble_eq_true rfl) (by omega) (loc1 := [(2, 69), (9, 0)]) rfl ?_
    refine hs1 _ _ _ _ (by omega) J2 X2.1 (fun M3 w3 q3 => ?_)
    obtain ⟨f3, q3⟩ := q3
    have F3 := (F2).tr f3
    have b3 := hq.1 _ X2.1
    generalize r3 : q.1 (lxN f z x) = u3 at q3 b3
    rcases u3 with p3 | ⟨y3, c3, v3⟩
    · have D3 : DJm M3 t f z p3 (o + 1) e := q3
      refine wp_ineg dX8_atom3_22 ?_
      refine wp_istore_n (loc' := [(2, 69), (0, (wrap (-w3)))]) dX8_atom3_23 rfl (Nat.le_of_ble_eq_true rfl) rfl ?_
      refine wp_aload_n dX8_atom3_24 rfl rfl ?_
      refine wp_dup dX8_atom3_25 (Or.inr rfl) ?_
      refine wp_get 69 rfl fl_RX8_191 rfl ⟨by omega, by omega⟩ dX8_atom3_26 rfl (v := (o + 1)) (D3.2.1) ?_
      refine wp_iconst dX8_atom3_29 (by decide) ?_
      refine wp_isub dX8_atom3_30 (by omega) ?_
      refine wp_puti 69 rfl fl_RX8_191 rfl ⟨by omega, by omega⟩ dX8_atom3_31 rfl rfl ?_
      refine wp_goto (tgt := 161) dX8_atom3_34 (by decide) ?_
      refine wp_iload_n dX8_atom3_161 rfl rfl ?_
      refine wp_iret rfl dX8_atom3_162 ?_
      have J4 := (D3).opn (show ((o + 1) - 1) = o by omega)
      have B4 : Fr VMr M0 (mu M3 69 25 ((o + 1) - 1)) := (F3).tr fm25
      generalize (mu M3 69 25 ((o + 1) - 1)) = N4 at J4 B4 ⊢
      have ee : oneP f z (some q) x = pbd (q.1 (lxN f z x)) (fun y c v => .inr (y, c ++ [-15], fun e => wrap (-(v e)))) := (if_neg (by omega)).trans ((if_neg (by omega)).trans (if_pos t1))
      rw [ee, r3] at k
      exact k _ _ ⟨B4, J4⟩
    · obtain ⟨J3, e3⟩ : RJm M3 t f z y3 (o + 1) e ∧ w3 = v3 e := q3
      obtain ⟨b3, B3, _⟩ : (lxN f z x) + c3.length ≤ y3 ∧ (y3 : Int) ≤ z ∧ _ := b3
      refine wp_ineg dX8_atom3_22 ?_
      refine wp_istore_n (loc' := [(2, 69), (0, (wrap (-w3)))]) dX8_atom3_23 rfl (Nat.le_of_ble_eq_true rfl) rfl ?_
      refine wp_aload_n dX8_atom3_24 rfl rfl ?_
      refine wp_dup dX8_atom3_25 (Or.inr rfl) ?_
      refine wp_get 69 rfl fl_RX8_191 rfl ⟨by omega, by omega⟩ dX8_atom3_26 rfl (v := (o + 1)) (J3.2.2.1) ?_
      refine wp_iconst dX8_atom3_29 (by decide) ?_
      refine wp_isub dX8_atom3_30 (by omega) ?_
      refine wp_puti 69 rfl fl_RX8_191 rfl ⟨by omega, by omega⟩ dX8_atom3_31 rfl rfl ?_
      refine wp_goto (tgt := 161) dX8_atom3_34 (by decide) ?_
      refine wp_iload_n dX8_atom3_161 rfl rfl ?_
      refine wp_iret rfl dX8_atom3_162 ?_
      have J5 := (J3).opn (show ((o + 1) - 1) = o by omega)
      have B5 : Fr VMr M0 (mu M3 69 25 ((o + 1) - 1)) := (F3).tr fm25
      generalize (mu M3 69 25 ((o + 1) - 1)) = N5 at J5 B5 ⊢
      have ee : oneP f z (some q) x = pbd (q.1 (lxN f z x)) (fun y c v => .inr (y, c ++ [-15], fun e => wrap (-(v e)))) := (if_neg (by omega)).trans ((if_neg (by omega)).trans (if_pos t1))
      rw [ee, r3] at k
      exact k _ _ ⟨B5, J5, by rw [e3]⟩
  · refine wp_if_eq (tgt := 37) dX8_atom3_8 (by decide) (fun _ => ?_) (fun h => absurd h (by decide))
    refine wp_aload_n dX8_atom3_37 rfl rfl ?_
    refine wp_bipush dX8_atom3_38 (by decide) (by decide) ?_
    refine wp_callV0 (d' := d - 1) cv_RX8_222 69 rfl [(0, 40)] [] rfl rfl (Or.inl ⟨_, _, rfl, by decide, rfl, by omega, by omega⟩) (by omega) (Nat.le_of_ble_eq_true rfl) dX8_atom3_40 rfl (Nat.le_of_ble_eq_true rfl) (by omega) (loc1 := [(2, 69), (0, 40)]) rfl ?_
    refine sp_isSg hn hJ 40 (by decide) (fun t6 => ?_) (fun t6 => ?_)
    · have g6 := ((hJ).2.1.2.2.sgn (s := 40) (by decide)).mpr t6
      refine wp_if_eq (tgt := 95) dX8_atom3_43 (by decide) (fun h => absurd h (by decide)) (fun _ => ?_)
      refine wp_aload_n dX8_atom3_46 rfl rfl ?_
      refine wp_callV0 (d' := d - 1) cv_RX8_225 69 rfl [] [] rfl rfl (Or.inl ⟨_, _, rfl, by decide, rfl, by omega, by omega⟩) (by omega) (Nat.le_of_ble_eq_true rfl) dX8_atom3_47 rfl (Nat.le_of_ble_eq_true rfl) (by omega) (loc1 := [(2, 69)]) rfl ?_
      refine sp_opensm hn (by omega) hB hJ hx ho (by omega) (fun M7 J7 f7 => ?_)
      have F7 := ((Fr.rf : Fr VMr M0 M0)).tr f7
      have X7 := lxN_le (f := f) hx
      have Y7 := lxA_le (f := f) hx
      refine wp_if_eq (tgt := 161) dX8_atom3_50 (by decide) (fun h => absurd h (by decide)) (fun _ => ?_)
      refine wp_aload_n dX8_atom3_53 rfl rfl ?_
      refine wp_callV0 (d' := d - 1) cv_RX8_270 69 rfl [] [] rfl rfl (Or.inl ⟨_, _, rfl, by decide, rfl, by omega, by omega⟩) (by omega) (Nat.le_of_ble_eq_true rfl) dX8_atom3_54 rfl (Nat.le_of_ble_eq_true rfl) (by omega) (loc1 := [(2, 69), (9, 0), (9, 0)]) rfl ?_
      refine hs3 _ _ _ _ (by omega) J7 X7.1 (fun M8 w8 q8 => ?_)
      obtain ⟨f8, q8⟩ := q8
      have F8 := (F7).tr f8
      have b8 := hq.2.2 _ X7.1
      generalize r8 : q.2.2 (lxN f z x) = u8 at q8 b8
      rcases u8 with p8 | ⟨y8, c8, v8⟩
      · have D8 : DJm M8 t f z p8 (o + 1) e := q8
        refine wp_istore_n (loc' := [(2, 69), (0, w8)]) dX8_atom3_57 rfl (Nat.le_of_ble_eq_true rfl) rfl ?_
        refine wp_aload_n dX8_atom3_58 rfl rfl ?_
        refine wp_bipush dX8_atom3_59 (by decide) (by decide) ?_
        refine wp_callV0 (d' := d - 1) cv_RX8_222 69 rfl [(0, 41)] [] rfl rfl (Or.inl ⟨_, _, rfl, by decide, rfl, by omega, by omega⟩) (by omega) (Nat.le_of_ble_eq_true rfl) dX8_atom3_61 rfl (Nat.le_of_ble_eq_true rfl) (by omega) (loc1 := [(2, 69), (0, 41)]) rfl ?_
        refine sp_isSd hn D8 ?_
        refine wp_if_ne (tgt := 71) dX8_atom3_64 (by decide) (fun h => absurd h (by decide)) (fun _ => ?_)
        refine wp_aload_n dX8_atom3_67 rfl rfl ?_
        refine wp_callV0 (d' := d - 1) cv_RX8_194 69 rfl [] [] rfl rfl (Or.inl ⟨_, _, rfl, by decide, rfl, by omega, by omega⟩) (by omega) (Nat.le_of_ble_eq_true rfl) dX8_atom3_68 rfl (Nat.le_of_ble_eq_true rfl) (by omega) (loc1 := [(2, 69)]) rfl ?_
        refine sp_failmD hn D8 ?_
        refine wp_aload_n dX8_atom3_71 rfl rfl ?_
        refine wp_dup dX8_atom3_72 (Or.inr rfl) ?_
        refine wp_get 69 rfl fl_RX8_191 rfl ⟨by omega, by omega⟩ dX8_atom3_73 rfl (v := (o + 1)) (D8.2.1) ?_
        refine wp_iconst dX8_atom3_76 (by decide) ?_
        refine wp_isub dX8_atom3_77 (by omega) ?_
        refine wp_puti 69 rfl fl_RX8_191 rfl ⟨by omega, by omega⟩ dX8_atom3_78 rfl rfl ?_
        refine wp_aload_n dX8_atom3_81 rfl rfl ?_
        refine wp_get 69 rfl fl_RX8_181 rfl ⟨by omega, by omega⟩ dX8_atom3_82 rfl (v := 1) (D8.2.2.1) ?_
        refine wp_if_ne (tgt := 161) dX8_atom3_85 (by decide) (fun _ => ?_) (fun h => absurd h (by decide))
        refine wp_iload_n dX8_atom3_161 rfl rfl ?_
        refine wp_iret rfl dX8_atom3_162 ?_
        have J11 := (D8).opn (show ((o + 1) - 1) = o by omega)
        have B11 : Fr VMr M0 (mu M8 69 25 ((o + 1) - 1)) := (F8).tr fm25
        generalize (mu M8 69 25 ((o + 1) - 1)) = N11 at J11 B11 ⊢
        have ee : oneP f z (some q) x = pbd (q.2.2 (lxN f z x)) (fun y c v => if lxT f z y = 41 then .inr (lxN f z y, c, v) else .inl (lxA f z y)) := (if_neg (by omega)).trans ((if_neg (by omega)).trans ((if_neg t1).trans (if_pos t6)))
        rw [ee, r8] at k
        exact k _ _ ⟨B11, J11⟩
      · obtain ⟨J8, e8⟩ : RJm M8 t f z y8 (o + 1) e ∧ w8 = v8 e := q8
        obtain ⟨b8, B8, _⟩ : (lxN f z x) + c8.length ≤ y8 ∧ (y8 : Int) ≤ z ∧ _ := b8
        refine wp_istore_n (loc' := [(2, 69), (0, w8)]) dX8_atom3_57 rfl (Nat.le_of_ble_eq_true rfl) rfl ?_
        refine wp_aload_n dX8_atom3_58 rfl rfl ?_
        refine wp_bipush dX8_atom3_59 (by decide) (by decide) ?_
        refine wp_callV0 (d' := d - 1) cv_RX8_222 69 rfl [(0, 41)] [] rfl rfl (Or.inl ⟨_, _, rfl, by decide, rfl, by omega, by omega⟩) (by omega) (Nat.le_of_ble_eq_true rfl) dX8_atom3_61 rfl (Nat.le_of_ble_eq_true rfl) (by omega) (loc1 := [(2, 69), (0, 41)]) rfl ?_
        refine sp_isSg hn J8 41 (by decide) (fun t12 => ?_) (fun t12 => ?_)
        · have g12 := ((J8).2.1.2.2.sgn (s := 41) (by decide)).mpr t12
          refine wp_if_ne (tgt := 71) dX8_atom3_64 (by decide) (fun _ => ?_) (fun h => absurd h (by decide))
          refine wp_aload_n dX8_atom3_71 rfl rfl ?_
          refine wp_dup dX8_atom3_72 (Or.inr rfl) ?_
          refine wp_get 69 rfl fl_RX8_191 rfl ⟨by omega, by omega⟩ dX8_atom3_73 rfl (v := (o + 1)) (J8.2.2.1) ?_
          refine wp_iconst dX8_atom3_76 (by decide) ?_
          refine wp_isub dX8_atom3_77 (by omega) ?_
          refine wp_puti 69 rfl fl_RX8_191 rfl ⟨by omega, by omega⟩ dX8_atom3_78 rfl rfl ?_
          refine wp_aload_n dX8_atom3_81 rfl rfl ?_
          refine wp_get 69 rfl fl_RX8_181 rfl ⟨by omega, by omega⟩ dX8_atom3_82 rfl (v := 0) (J8.2.2.2.1) ?_
          refine wp_if_ne (tgt := 161) dX8_atom3_85 (by decide) (fun h => absurd h (by decide)) (fun _ => ?_)
          refine wp_aload_n dX8_atom3_88 rfl rfl ?_
          refine wp_callV0 (d' := d - 1) cv_RX8_197 69 rfl [] [] rfl rfl (Or.inl ⟨_, _, rfl, by decide, rfl, by omega, by omega⟩) (by omega) (Nat.le_of_ble_eq_true rfl) dX8_atom3_89 rfl (Nat.le_of_ble_eq_true rfl) (by omega) (loc1 := [(2, 69), (9, 0), (9, 0)]) rfl ?_
          have J13 := (J8).opn (show ((o + 1) - 1) = o by omega)
          have B13 : Fr VMr M0 (mu M8 69 25 ((o + 1) - 1)) := (F8).tr fm25
          generalize (mu M8 69 25 ((o + 1) - 1)) = N13 at J13 B13 ⊢
          refine sp_next hn (by omega) hB (J13).1 ((J13).2.1.2.1 ((J13).2.1.2.2.ne4 (by omega))) (lxN_le B8).1 (fun M14 f14 l14 => ?_)
          have J14 := (J13).step f14 l14
          have F14 := (B13).tr (f14.mono VM1.r)
          have X14 := lxN_le (f := f) B8
          have Y14 := lxA_le (f := f) B8
          refine wp_goto (tgt := 161) dX8_atom3_92 (by decide) ?_
          refine wp_iload_n dX8_atom3_161 rfl rfl ?_
          refine wp_iret rfl dX8_atom3_162 ?_
          have ee : oneP f z (some q) x = pbd (q.2.2 (lxN f z x)) (fun y c v => if lxT f z y = 41 then .inr (lxN f z y, c, v) else .inl (lxA f z y)) := (if_neg (by omega)).trans ((if_neg (by omega)).trans ((if_neg t1).trans (if_pos t6)))
          rw [ee, r8] at k
          replace k : ∀ M' w, PoM M0 t f z o e (if lxT f z y8 = 41 then .inr (lxN f z y8, c8, v8) else .inl (lxA f z y8)) M' w → Q (some (0, w)) M' := k
          rw [if_pos t12] at k
          exact k _ _ ⟨F14, J14, e8⟩
        · refine wp_if_ne (tgt := 71) dX8_atom3_64 (by decide) (fun h => absurd h (by decide)) (fun _ => ?_)
          refine wp_aload_n dX8_atom3_67 rfl rfl ?_
          refine wp_callV0 (d' := d - 1) cv_RX8_194 69 rfl [] [] rfl rfl (Or.inl ⟨_, _, rfl, by decide, rfl, by omega, by omega⟩) (by omega) (Nat.le_of_ble_eq_true rfl) dX8_atom3_68 rfl (Nat.le_of_ble_eq_true rfl) (by omega) (loc1 := [(2, 69)]) rfl ?_
          refine sp_failm hn J8 (fun M15 D15 f15 => ?_)
          have F15 := (F8).tr f15
          refine wp_aload_n dX8_atom3_71 rfl rfl ?_
          refine wp_dup dX8_atom3_72 (Or.inr rfl) ?_
          refine wp_get 69 rfl fl_RX8_191 rfl ⟨by omega, by omega⟩ dX8_atom3_73 rfl (v := (o + 1)) (D15.2.1) ?_
          refine wp_iconst dX8_atom3_76 (by decide) ?_
          refine wp_isub dX8_atom3_77 (by omega) ?_
          refine wp_puti 69 rfl fl_RX8_191 rfl ⟨by omega, by omega⟩ dX8_atom3_78 rfl rfl ?_
          refine wp_aload_n dX8_atom3_81 rfl rfl ?_
          refine wp_get 69 rfl fl_RX8_181 rfl ⟨by omega, by omega⟩ dX8_atom3_82 rfl (v := 1) (D15.2.2.1) ?_
          refine wp_if_ne (tgt := 161) dX8_atom3_85 (by decide) (fun _ => ?_) (fun h => absurd h (by decide))
          refine wp_iload_n dX8_atom3_161 rfl rfl ?_
          refine wp_iret rfl dX8_atom3_162 ?_
          have J16 := (D15).opn (show ((o + 1) - 1) = o by omega)
          have B16 : Fr VMr M0 (mu M15 69 25 ((o + 1) - 1)) := (F15).tr fm25
          generalize (mu M15 69 25 ((o + 1) - 1)) = N16 at J16 B16 ⊢
          have ee : oneP f z (some q) x = pbd (q.2.2 (lxN f z x)) (fun y c v => if lxT f z y = 41 then .inr (lxN f z y, c, v) else .inl (lxA f z y)) := (if_neg (by omega)).trans ((if_neg (by omega)).trans ((if_neg t1).trans (if_pos t6)))
          rw [ee, r8] at k
          replace k : ∀ M' w, PoM M0 t f z o e (if lxT f z y8 = 41 then .inr (lxN f z y8, c8, v8) else .inl (lxA f z y8)) M' w → Q (some (0, w)) M' := k
          rw [if_neg t12] at k
          exact k _ _ ⟨B16, J16⟩
    · refine wp_if_eq (tgt := 95) dX8_atom3_43 (by decide) (fun _ => ?_) (fun h => absurd h (by decide))
      refine wp_aload_n dX8_atom3_95 rfl rfl ?_
      refine wp_get 69 rfl fl_RX8_181 rfl ⟨by omega, by omega⟩ dX8_atom3_96 rfl (v := 0) (hJ.2.2.2.1) ?_
      refine wp_if_ne (tgt := 123) dX8_atom3_99 (by decide) (fun h => absurd h (by decide)) (fun _ => ?_)
      refine wp_aload_n dX8_atom3_102 rfl rfl ?_
      refine wp_get 69 rfl fl_RX8_164 rfl ⟨by omega, by omega⟩ dX8_atom3_103 rfl (v := (M0 69 22)) (rfl) ?_
      refine wp_iconst dX8_atom3_106 (by decide) ?_
      refine wp_icmp_ne (tgt := 123) dX8_atom3_107 (by decide) (fun h107 => ?_) (fun h107 => ?_)
      · refine wp_aload_n dX8_atom3_123 rfl rfl ?_
        refine wp_get 69 rfl fl_RX8_181 rfl ⟨by omega, by omega⟩ dX8_atom3_124 rfl (v := 0) (hJ.2.2.2.1) ?_
        refine wp_if_ne (tgt := 157) dX8_atom3_127 (by decide) (fun h => absurd h (by decide)) (fun _ => ?_)
        refine wp_aload_n dX8_atom3_130 rfl rfl ?_
        refine wp_get 69 rfl fl_RX8_164 rfl ⟨by omega, by omega⟩ dX8_atom3_131 rfl (v := (M0 69 22)) (rfl) ?_
        refine wp_iconst dX8_atom3_134 (by decide) ?_
        refine wp_icmp_ne (tgt := 157) dX8_atom3_135 (by decide) (fun h135 => ?_) (fun h135 => ?_)
        · refine wp_aload_n dX8_atom3_157 rfl rfl ?_
          refine wp_callV0 (d' := d - 1) cv_RX8_194 69 rfl [] [] rfl rfl (Or.inl ⟨_, _, rfl, by decide, rfl, by omega, by omega⟩) (by omega) (Nat.le_of_ble_eq_true rfl) dX8_atom3_158 rfl (Nat.le_of_ble_eq_true rfl) (by omega) (loc1 := [(2, 69)]) rfl ?_
          refine sp_failm hn hJ (fun M17 D17 f17 => ?_)
          have F17 := ((Fr.rf : Fr VMr M0 M0)).tr f17
          refine wp_iload_n dX8_atom3_161 rfl rfl ?_
          refine wp_iret rfl dX8_atom3_162 ?_
          have two := hJ.2.1.2.2.two
          have t2 : lxT f z x ≠ 2 := fun h => h107 (two.1.mpr h)
          have hw := hJ.2.1.2.2.word h135
          have ee : oneP f z (some q) x = .inl (lxA f z x) := (if_neg t2).trans ((if_neg (by omega)).trans ((if_neg t1).trans (if_neg t6)))
          rw [ee] at k
          exact k _ _ ⟨F17, D17⟩
        · refine wp_aload_n dX8_atom3_138 rfl rfl ?_
          refine wp_callV0 (d' := d - 1) cv_RX8_229 69 rfl [] [] rfl rfl (Or.inl ⟨_, _, rfl, by decide, rfl, by omega, by omega⟩) (by omega) (Nat.le_of_ble_eq_true rfl) dX8_atom3_139 rfl (Nat.le_of_ble_eq_true rfl) (by omega) (loc1 := [(2, 69)]) rfl ?_
          refine sp_name hn (by omega) hJ hx (fun hnm => ?_) (fun hnm M18 D18 f18 => ?_)
          · refine wp_istore_n (loc' := [(2, 69), (0, (e (-1 - (lxT f z x - 262))))]) dX8_atom3_142 rfl (Nat.le_of_ble_eq_true rfl) rfl ?_
            refine wp_aload_n dX8_atom3_143 rfl rfl ?_
            refine wp_get 69 rfl fl_RX8_181 rfl ⟨by omega, by omega⟩ dX8_atom3_144 rfl (v := 0) (hJ.2.2.2.1) ?_
            refine wp_if_ne (tgt := 161) dX8_atom3_147 (by decide) (fun h => absurd h (by decide)) (fun _ => ?_)
            refine wp_aload_n dX8_atom3_150 rfl rfl ?_
            refine wp_callV0 (d' := d - 1) cv_RX8_197 69 rfl [] [] rfl rfl (Or.inl ⟨_, _, rfl, by decide, rfl, by omega, by omega⟩) (by omega) (Nat.le_of_ble_eq_true rfl) dX8_atom3_151 rfl (Nat.le_of_ble_eq_true rfl) (by omega) (loc1 := [(2, 69), (9, 0), (9, 0)]) rfl ?_
            refine sp_next hn (by omega) hB (hJ).1 ((hJ).2.1.2.1 ((hJ).2.1.2.2.ne4 (by omega))) (lxN_le hx).1 (fun M19 f19 l19 => ?_)
            have J19 := (hJ).step f19 l19
            have F19 := ((Fr.rf : Fr VMr M0 M0)).tr (f19.mono VM1.r)
            have X19 := lxN_le (f := f) hx
            have Y19 := lxA_le (f := f) hx
            refine wp_goto (tgt := 161) dX8_atom3_154 (by decide) ?_
            refine wp_iload_n dX8_atom3_161 rfl rfl ?_
            refine wp_iret rfl dX8_atom3_162 ?_
            have two := hJ.2.1.2.2.two
            have t2 : lxT f z x ≠ 2 := fun h => h107 (two.1.mpr h)
            have ee : oneP f z (some q) x = .inr (lxN f z x, [-1 - (lxT f z x - 262)], fun e => e (-1 - (lxT f z x - 262))) := (if_neg t2).trans (if_pos hnm)
            rw [ee] at k
            exact k _ _ ⟨F19, J19, rfl⟩
          · have F18 := ((Fr.rf : Fr VMr M0 M0)).tr f18
            refine wp_istore_n (loc' := [(2, 69), (0, 0)]) dX8_atom3_142 rfl (Nat.le_of_ble_eq_true rfl) rfl ?_
            refine wp_aload_n dX8_atom3_143 rfl rfl ?_
            refine wp_get 69 rfl fl_RX8_181 rfl ⟨by omega, by omega⟩ dX8_atom3_144 rfl (v := 1) (D18.2.2.1) ?_
            refine wp_if_ne (tgt := 161) dX8_atom3_147 (by decide) (fun _ => ?_) (fun h => absurd h (by decide))
            refine wp_iload_n dX8_atom3_161 rfl rfl ?_
            refine wp_iret rfl dX8_atom3_162 ?_
            have two := hJ.2.1.2.2.two
            have t2 : lxT f z x ≠ 2 := fun h => h107 (two.1.mpr h)
            have ee : oneP f z (some q) x = .inl (lxA f z x) := (if_neg t2).trans ((if_neg hnm).trans ((if_neg t1).trans (if_neg t6)))
            rw [ee] at k
            exact k _ _ ⟨F18, D18⟩
      · refine wp_aload_n dX8_atom3_110 rfl rfl ?_
        refine wp_get 69 rfl fl_RX8_175 rfl ⟨by omega, by omega⟩ dX8_atom3_111 rfl (v := (M0 69 24)) (rfl) ?_
        refine wp_l2i dX8_atom3_114 ?_
        refine wp_istore_n (loc' := [(2, 69), (0, (wrap (M0 69 24)))]) dX8_atom3_115 rfl (Nat.le_of_ble_eq_true rfl) rfl ?_
        refine wp_aload_n dX8_atom3_116 rfl rfl ?_
        refine wp_callV0 (d' := d - 1) cv_RX8_197 69 rfl [] [] rfl rfl (Or.inl ⟨_, _, rfl, by decide, rfl, by omega, by omega⟩) (by omega) (Nat.le_of_ble_eq_true rfl) dX8_atom3_117 rfl (Nat.le_of_ble_eq_true rfl) (by omega) (loc1 := [(2, 69), (9, 0), (9, 0)]) rfl ?_
        have t2 := hJ.2.1.2.2.two.1.mp h107
        refine sp_next hn (by omega) hB (hJ).1 ((hJ).2.1.2.1 ((hJ).2.1.2.2.ne4 (by omega))) (lxN_le hx).1 (fun M20 f20 l20 => ?_)
        have J20 := (hJ).step f20 l20
        have F20 := ((Fr.rf : Fr VMr M0 M0)).tr (f20.mono VM1.r)
        have X20 := lxN_le (f := f) hx
        have Y20 := lxA_le (f := f) hx
        refine wp_goto (tgt := 161) dX8_atom3_120 (by decide) ?_
        refine wp_iload_n dX8_atom3_161 rfl rfl ?_
        refine wp_iret rfl dX8_atom3_162 ?_
        have two := hJ.2.1.2.2.two
        have t2 := two.1.mp h107
        have ee : oneP f z (some q) x = .inr (lxN f z x, [lxV f z x], fun _ => lxV f z x) := if_pos t2
        rw [ee] at k
        have hv := lxV_r hx t2
        exact k _ _ ⟨F20, J20, by rw [two.2 h107, wrap_id (by omega)]⟩
set_option maxRecDepth 20000 in
set_option maxHeartbeats 4000000 in
theorem cm_not3 {l : Launch} {g : Gw} {n : Nat} (hn : 90 ≤ n) {t : Nat} {f : Nat → Int} {z : Int} {e : Int → Int} {B : Nat} (hB8 : 12 ≤ B) (hB : BT f z) {o : Int} (ho : 0 ≤ o ∧ o < 5) {q : P3} (hq : OK3 z q) (hs2 : CMm l g n t f z e m_X8_not4 [(9, 0), (9, 0), (9, 0)] B (o + 1) q.2.1) {P : Nat → PR} (hqc : ∀ x : Nat, (x : Int) ≤ z → PQ z x (P x)) (hc : CMm l g n t f z e m_X8_added3 [(9, 0), (9, 0), (9, 0)] B o P) : CMm l g n t f z e m_X8_not3 [(9, 0), (9, 0), (9, 0)] (B + 1) o (notP f z (some q) (gBn f z opC 1 P)) := by
  intro d M0 Q x hd hJ hx k
  have hz1 := hJ.1.2.2.2.2.2.1
  refine wp_aload_n dX8_not3_0 rfl rfl ?_
  refine wp_bipush dX8_not3_1 (by decide) (by decide) ?_
  refine wp_bipush dX8_not3_3 (by decide) (by decide) ?_
  refine wp_bipush dX8_not3_5 (by decide) (by decide) ?_
  refine wp_iconst dX8_not3_7 (by decide) ?_
  refine wp_iconst dX8_not3_8 (by decide) ?_
  refine wp_iconst dX8_not3_9 (by decide) ?_
  refine wp_iconst dX8_not3_10 (by decide) ?_
  refine wp_iconst dX8_not3_11 (by decide) ?_
  refine wp_callV0 (d' := d - 1) cv_RX8_200 69 rfl [(0, 110), (0, 111), (0, 116), (0, 0), (0, 0), (0, 0), (0, 0), (0, 0)] [] rfl rfl (Or.inl ⟨_, _, rfl, by decide, rfl, by omega, by omega⟩) (by omega) (Nat.le_of_ble_eq_true rfl) dX8_not3_12 rfl (Nat.le_of_ble_eq_true rfl) (by omega) (loc1 := [(2, 69), (0, 110), (0, 111), (0, 116), (0, 0), (0, 0), (0, 0), (0, 0), (0, 0)]) rfl ?_
  refine sp_isWm_5 hn (by omega) hJ hx (fun t1 => ?_) (fun t1 => ?_)
  · refine wp_if_eq (tgt := 52) dX8_not3_15 (by decide) (fun h => absurd h (by decide)) (fun _ => ?_)
    refine wp_aload_n dX8_not3_18 rfl rfl ?_
    refine wp_callV0 (d' := d - 1) cv_RX8_225 69 rfl [] [] rfl rfl (Or.inl ⟨_, _, rfl, by decide, rfl, by omega, by omega⟩) (by omega) (Nat.le_of_ble_eq_true rfl) dX8_not3_19 rfl (Nat.le_of_ble_eq_true rfl) (by omega) (loc1 := [(2, 69)]) rfl ?_
    refine sp_opensm hn (by omega) hB hJ hx ho (by omega) (fun M2 J2 f2 => ?_)
    have F2 := ((Fr.rf : Fr VMr M0 M0)).tr f2
    have X2 := lxN_le (f := f) hx
    have Y2 := lxA_le (f := f) hx
    refine wp_if_ne (tgt := 27) dX8_not3_22 (by decide) (fun _ => ?_) (fun h => absurd h (by decide))
    refine wp_aload_n dX8_not3_27 rfl rfl ?_
    refine wp_callV0 (d' := d - 1) cv_RX8_264 69 rfl [] [] rfl rfl (Or.inl ⟨_, _, rfl, by decide, rfl, by omega, by omega⟩) (by omega) (Nat.le_of_ble_eq_true rfl) dX8_not3_28 rfl (Nat.le_of_ble_eq_true rfl) (by omega) (loc1 := [(2, 69), (9, 0), (9, 0), (9, 0)]) rfl ?_
    refine hs2 _ _ _ _ (by omega) J2 X2.1 (fun M3 w3 q3 => ?_)
    obtain ⟨f3, q3⟩ := q3
    have F3 := (F2).tr f3
    have b3 := hq.2.1 _ X2.1
    generalize r3 : q.2.1 (lxN f z x) = u3 at q3 b3
    rcases u3 with p3 | ⟨y3, c3, v3⟩
    · have D3 : DJm M3 t f z p3 (o + 1) e := q3
      refine wp_istore_n (loc' := [(2, 69), (0, w3), (9, 0), (9, 0)]) dX8_not3_31 rfl (Nat.le_of_ble_eq_true rfl) rfl ?_
      refine wp_aload_n dX8_not3_32 rfl rfl ?_
      refine wp_dup dX8_not3_33 (Or.inr rfl) ?_
      refine wp_get 69 rfl fl_RX8_191 rfl ⟨by omega, by omega⟩ dX8_not3_34 rfl (v := (o + 1)) (D3.2.1) ?_
      refine wp_iconst dX8_not3_37 (by decide) ?_
      refine wp_isub dX8_not3_38 (by omega) ?_
      refine wp_puti 69 rfl fl_RX8_191 rfl ⟨by omega, by omega⟩ dX8_not3_39 rfl rfl ?_
      refine wp_iload_n dX8_not3_42 rfl rfl ?_
      refine wp_if_ne (tgt := 50) dX8_not3_43 (by decide) (fun h43 => ?_) (fun h43 => ?_)
      · refine wp_iconst dX8_not3_50 (by decide) ?_
        refine wp_iret rfl dX8_not3_51 ?_
        have J4 := (D3).opn (show ((o + 1) - 1) = o by omega)
        have B4 : Fr VMr M0 (mu M3 69 25 ((o + 1) - 1)) := (F3).tr fm25
        generalize (mu M3 69 25 ((o + 1) - 1)) = N4 at J4 B4 ⊢
        have ee : notP f z (some q) (gBn f z opC 1 P) x = pbd (q.2.1 (lxN f z x)) (fun y c v => .inr (y, c ++ [-9], fun e => if v e = 0 then 1 else 0)) := if_pos t1
        rw [ee, r3] at k
        exact k _ _ ⟨B4, J4⟩
      · refine wp_iconst dX8_not3_46 (by decide) ?_
        refine wp_goto (tgt := 51) dX8_not3_47 (by decide) ?_
        refine wp_iret rfl dX8_not3_51 ?_
        have J5 := (D3).opn (show ((o + 1) - 1) = o by omega)
        have B5 : Fr VMr M0 (mu M3 69 25 ((o + 1) - 1)) := (F3).tr fm25
        generalize (mu M3 69 25 ((o + 1) - 1)) = N5 at J5 B5 ⊢
        have ee : notP f z (some q) (gBn f z opC 1 P) x = pbd (q.2.1 (lxN f z x)) (fun y c v => .inr (y, c ++ [-9], fun e => if v e = 0 then 1 else 0)) := if_pos t1
        rw [ee, r3] at k
        exact k _ _ ⟨B5, J5⟩
    · obtain ⟨J3, e3⟩ : RJm M3 t f z y3 (o + 1) e ∧ w3 = v3 e := q3
      obtain ⟨b3, B3, _⟩ : (lxN f z x) + c3.length ≤ y3 ∧ (y3 : Int) ≤ z ∧ _ := b3
      refine wp_istore_n (loc' := [(2, 69), (0, w3), (9, 0), (9, 0)]) dX8_not3_31 rfl (Nat.le_of_ble_eq_true rfl) rfl ?_
      refine wp_aload_n dX8_not3_32 rfl rfl ?_
      refine wp_dup dX8_not3_33 (Or.inr rfl) ?_
      refine wp_get 69 rfl fl_RX8_191 rfl ⟨by omega, by omega⟩ dX8_not3_34 rfl (v := (o + 1)) (J3.2.2.1) ?_
      refine wp_iconst dX8_not3_37 (by decide) ?_
      refine wp_isub dX8_not3_38 (by omega) ?_
      refine wp_puti 69 rfl fl_RX8_191 rfl ⟨by omega, by omega⟩ dX8_not3_39 rfl rfl ?_
      refine wp_iload_n dX8_not3_42 rfl rfl ?_
      refine wp_if_ne (tgt := 50) dX8_not3_43 (by decide) (fun h43 => ?_) (fun h43 => ?_)
      · refine wp_iconst dX8_not3_50 (by decide) ?_
        refine wp_iret rfl dX8_not3_51 ?_
        have J6 := (J3).opn (show ((o + 1) - 1) = o by omega)
        have B6 : Fr VMr M0 (mu M3 69 25 ((o + 1) - 1)) := (F3).tr fm25
        generalize (mu M3 69 25 ((o + 1) - 1)) = N6 at J6 B6 ⊢
        have ee : notP f z (some q) (gBn f z opC 1 P) x = pbd (q.2.1 (lxN f z x)) (fun y c v => .inr (y, c ++ [-9], fun e => if v e = 0 then 1 else 0)) := if_pos t1
        rw [ee, r3] at k
        refine k _ _ ⟨B6, J6, ?_⟩
        show _ = (if v3 e = 0 then (1 : Int) else 0)
        rw [← e3]
        first | exact (if_pos (by omega)).symm | exact (if_neg (by omega)).symm
      · refine wp_iconst dX8_not3_46 (by decide) ?_
        refine wp_goto (tgt := 51) dX8_not3_47 (by decide) ?_
        refine wp_iret rfl dX8_not3_51 ?_
        have J7 := (J3).opn (show ((o + 1) - 1) = o by omega)
        have B7 : Fr VMr M0 (mu M3 69 25 ((o + 1) - 1)) := (F3).tr fm25
        generalize (mu M3 69 25 ((o + 1) - 1)) = N7 at J7 B7 ⊢
        have ee : notP f z (some q) (gBn f z opC 1 P) x = pbd (q.2.1 (lxN f z x)) (fun y c v => .inr (y, c ++ [-9], fun e => if v e = 0 then 1 else 0)) := if_pos t1
        rw [ee, r3] at k
        refine k _ _ ⟨B7, J7, ?_⟩
        show _ = (if v3 e = 0 then (1 : Int) else 0)
        rw [← e3]
        first | exact (if_pos (by omega)).symm | exact (if_neg (by omega)).symm
  · refine wp_if_eq (tgt := 52) dX8_not3_15 (by decide) (fun _ => ?_) (fun h => absurd h (by decide))
    refine wp_aload_n dX8_not3_52 rfl rfl ?_
    refine wp_callV0 (d' := d - 1) cv_RX8_279 69 rfl [] [] rfl rfl (Or.inl ⟨_, _, rfl, by decide, rfl, by omega, by omega⟩) (by omega) (Nat.le_of_ble_eq_true rfl) dX8_not3_53 rfl (Nat.le_of_ble_eq_true rfl) (by omega) (loc1 := [(2, 69), (9, 0), (9, 0), (9, 0)]) rfl ?_
    refine hc _ _ _ _ (by omega) hJ hx (fun M8 w8 q8 => ?_)
    obtain ⟨f8, q8⟩ := q8
    have F8 := ((Fr.rf : Fr VMr M0 M0)).tr f8
    have b8 := hqc _ hx
    generalize r8 : P x = u8 at q8 b8
    rcases u8 with p8 | ⟨y8, c8, v8⟩
    · have D8 : DJm M8 t f z p8 o e := q8
      refine wp_istore_n (loc' := [(2, 69), (0, w8), (9, 0), (9, 0)]) dX8_not3_56 rfl (Nat.le_of_ble_eq_true rfl) rfl ?_
      refine wp_aload_n dX8_not3_57 rfl rfl ?_
      refine wp_bipush dX8_not3_58 (by decide) (by decide) ?_
      refine wp_callV0 (d' := d - 1) cv_RX8_222 69 rfl [(0, 60)] [] rfl rfl (Or.inl ⟨_, _, rfl, by decide, rfl, by omega, by omega⟩) (by omega) (Nat.le_of_ble_eq_true rfl) dX8_not3_60 rfl (Nat.le_of_ble_eq_true rfl) (by omega) (loc1 := [(2, 69), (0, 60)]) rfl ?_
      refine sp_isSd hn D8 ?_
      refine wp_if_ne (tgt := 77) dX8_not3_63 (by decide) (fun h => absurd h (by decide)) (fun _ => ?_)
      refine wp_aload_n dX8_not3_66 rfl rfl ?_
      refine wp_bipush dX8_not3_67 (by decide) (by decide) ?_
      refine wp_callV0 (d' := d - 1) cv_RX8_222 69 rfl [(0, 61)] [] rfl rfl (Or.inl ⟨_, _, rfl, by decide, rfl, by omega, by omega⟩) (by omega) (Nat.le_of_ble_eq_true rfl) dX8_not3_69 rfl (Nat.le_of_ble_eq_true rfl) (by omega) (loc1 := [(2, 69), (0, 61)]) rfl ?_
      refine sp_isSd hn D8 ?_
      refine wp_if_ne (tgt := 77) dX8_not3_72 (by decide) (fun h => absurd h (by decide)) (fun _ => ?_)
      refine wp_iload_n dX8_not3_75 rfl rfl ?_
      refine wp_iret rfl dX8_not3_76 ?_
      have ee : notP f z (some q) (gBn f z opC 1 P) x = pbd (P x) (fun y c v => gL f z opC P 1 y c v) := if_neg t1
      rw [ee, r8] at k
      exact k _ _ ⟨F8, D8⟩
    · obtain ⟨J8, e8⟩ : RJm M8 t f z y8 o e ∧ w8 = v8 e := q8
      obtain ⟨b8, B8, _⟩ : x + c8.length ≤ y8 ∧ (y8 : Int) ≤ z ∧ _ := b8
      refine wp_istore_n (loc' := [(2, 69), (0, w8), (9, 0), (9, 0)]) dX8_not3_56 rfl (Nat.le_of_ble_eq_true rfl) rfl ?_
      refine wp_aload_n dX8_not3_57 rfl rfl ?_
      refine wp_bipush dX8_not3_58 (by decide) (by decide) ?_
      refine wp_callV0 (d' := d - 1) cv_RX8_222 69 rfl [(0, 60)] [] rfl rfl (Or.inl ⟨_, _, rfl, by decide, rfl, by omega, by omega⟩) (by omega) (Nat.le_of_ble_eq_true rfl) dX8_not3_60 rfl (Nat.le_of_ble_eq_true rfl) (by omega) (loc1 := [(2, 69), (0, 60)]) rfl ?_
      refine sp_isSg hn J8 60 (by decide) (fun t11 => ?_) (fun t11 => ?_)
      · have g11 := ((J8).2.1.2.2.sgn (s := 60) (by decide)).mpr t11
        refine wp_if_ne (tgt := 77) dX8_not3_63 (by decide) (fun _ => ?_) (fun h => absurd h (by decide))
        refine wp_aload_n dX8_not3_77 rfl rfl ?_
        refine wp_get 69 rfl fl_RX8_175 rfl ⟨by omega, by omega⟩ dX8_not3_78 rfl (v := 60) (g11.2) ?_
        refine wp_ldc2 (x := 60) dX8_not3_81 kl_RX8_244 (by decide) (wr_l (by omega)) ?_
        refine wp_lcmp dX8_not3_84 ?_
        change Wp _ _ _ _ _ _ _ _ ((0, 0) :: _) _ _ _
        refine wp_if_ne (tgt := 92) dX8_not3_85 (by decide) (fun h => absurd h (by decide)) (fun _ => ?_)
        refine wp_iconst dX8_not3_88 (by decide) ?_
        refine wp_goto (tgt := 93) dX8_not3_89 (by decide) ?_
        refine wp_istore_n (loc' := [(2, 69), (0, w8), (0, 1), (9, 0)]) dX8_not3_93 rfl (Nat.le_of_ble_eq_true rfl) rfl ?_
        refine wp_aload_n dX8_not3_94 rfl rfl ?_
        refine wp_callV0 (d' := d - 1) cv_RX8_197 69 rfl [] [] rfl rfl (Or.inl ⟨_, _, rfl, by decide, rfl, by omega, by omega⟩) (by omega) (Nat.le_of_ble_eq_true rfl) dX8_not3_95 rfl (Nat.le_of_ble_eq_true rfl) (by omega) (loc1 := [(2, 69), (9, 0), (9, 0)]) rfl ?_
        refine sp_next hn (by omega) hB (J8).1 ((J8).2.1.2.1 ((J8).2.1.2.2.ne4 (by omega))) (lxN_le B8).1 (fun M12 f12 l12 => ?_)
        have J12 := (J8).step f12 l12
        have F12 := (F8).tr (f12.mono VM1.r)
        have X12 := lxN_le (f := f) B8
        have Y12 := lxA_le (f := f) B8
        refine wp_aload_n dX8_not3_98 rfl rfl ?_
        refine wp_callV0 (d' := d - 1) cv_RX8_279 69 rfl [] [] rfl rfl (Or.inl ⟨_, _, rfl, by decide, rfl, by omega, by omega⟩) (by omega) (Nat.le_of_ble_eq_true rfl) dX8_not3_99 rfl (Nat.le_of_ble_eq_true rfl) (by omega) (loc1 := [(2, 69), (9, 0), (9, 0), (9, 0)]) rfl ?_
        refine hc _ _ _ _ (by omega) J12 X12.1 (fun M13 w13 q13 => ?_)
        obtain ⟨f13, q13⟩ := q13
        have F13 := (F12).tr f13
        have b13 := hqc _ X12.1
        generalize r13 : P (lxN f z y8) = u13 at q13 b13
        rcases u13 with p13 | ⟨y13, c13, v13⟩
        · have D13 : DJm M13 t f z p13 o e := q13
          refine wp_istore_n (loc' := [(2, 69), (0, w8), (0, 1), (0, w13)]) dX8_not3_102 rfl (Nat.le_of_ble_eq_true rfl) rfl ?_
          refine wp_iload_n dX8_not3_103 rfl rfl ?_
          refine wp_if_eq (tgt := 115) dX8_not3_104 (by decide) (fun h => absurd h (by decide)) (fun _ => ?_)
          refine wp_iload_n dX8_not3_107 rfl rfl ?_
          refine wp_iload_n dX8_not3_108 rfl rfl ?_
          refine wp_icmp_ge (tgt := 124) dX8_not3_109 (by decide) (fun h109 => ?_) (fun h109 => ?_)
          · refine wp_iconst dX8_not3_124 (by decide) ?_
            refine wp_iret rfl dX8_not3_125 ?_
            have ee : notP f z (some q) (gBn f z opC 1 P) x = pbd (P x) (fun y c v => gL f z opC P 1 y c v) := if_neg t1
            rw [ee, r8] at k
            have eo : opC (lxT f z y8) = -10 := if_pos t11
            have e2 : gL f z opC P 1 y8 c8 v8 = pbd (P (lxN f z y8)) (fun y c' v' => gL f z opC P 0 y (c8 ++ c' ++ [opC (lxT f z y8)]) (fun e => jn (opC (lxT f z y8)) (v8 e) (v' e))) := if_neg (by rw [eo]; decide)
            replace k : ∀ M' w, PoM M0 t f z o e (gL f z opC P 1 y8 c8 v8) M' w → Q (some (0, w)) M' := k
            rw [e2, r13] at k
            exact k _ _ ⟨F13, D13⟩
          · refine wp_goto (tgt := 120) dX8_not3_112 (by decide) ?_
            refine wp_iconst dX8_not3_120 (by decide) ?_
            refine wp_goto (tgt := 125) dX8_not3_121 (by decide) ?_
            refine wp_iret rfl dX8_not3_125 ?_
            have ee : notP f z (some q) (gBn f z opC 1 P) x = pbd (P x) (fun y c v => gL f z opC P 1 y c v) := if_neg t1
            rw [ee, r8] at k
            have eo : opC (lxT f z y8) = -10 := if_pos t11
            have e2 : gL f z opC P 1 y8 c8 v8 = pbd (P (lxN f z y8)) (fun y c' v' => gL f z opC P 0 y (c8 ++ c' ++ [opC (lxT f z y8)]) (fun e => jn (opC (lxT f z y8)) (v8 e) (v' e))) := if_neg (by rw [eo]; decide)
            replace k : ∀ M' w, PoM M0 t f z o e (gL f z opC P 1 y8 c8 v8) M' w → Q (some (0, w)) M' := k
            rw [e2, r13] at k
            exact k _ _ ⟨F13, D13⟩
        · obtain ⟨J13, e13⟩ : RJm M13 t f z y13 o e ∧ w13 = v13 e := q13
          obtain ⟨b13, B13, _⟩ : (lxN f z y8) + c13.length ≤ y13 ∧ (y13 : Int) ≤ z ∧ _ := b13
          refine wp_istore_n (loc' := [(2, 69), (0, w8), (0, 1), (0, w13)]) dX8_not3_102 rfl (Nat.le_of_ble_eq_true rfl) rfl ?_
          refine wp_iload_n dX8_not3_103 rfl rfl ?_
          refine wp_if_eq (tgt := 115) dX8_not3_104 (by decide) (fun h => absurd h (by decide)) (fun _ => ?_)
          refine wp_iload_n dX8_not3_107 rfl rfl ?_
          refine wp_iload_n dX8_not3_108 rfl rfl ?_
          refine wp_icmp_ge (tgt := 124) dX8_not3_109 (by decide) (fun h109 => ?_) (fun h109 => ?_)
          · refine wp_iconst dX8_not3_124 (by decide) ?_
            refine wp_iret rfl dX8_not3_125 ?_
            have ee : notP f z (some q) (gBn f z opC 1 P) x = pbd (P x) (fun y c v => gL f z opC P 1 y c v) := if_neg t1
            rw [ee, r8] at k
            have eo : opC (lxT f z y8) = -10 := if_pos t11
            have e2 : gL f z opC P 1 y8 c8 v8 = pbd (P (lxN f z y8)) (fun y c' v' => gL f z opC P 0 y (c8 ++ c' ++ [opC (lxT f z y8)]) (fun e => jn (opC (lxT f z y8)) (v8 e) (v' e))) := if_neg (by rw [eo]; decide)
            replace k : ∀ M' w, PoM M0 t f z o e (gL f z opC P 1 y8 c8 v8) M' w → Q (some (0, w)) M' := k
            rw [e2, r13] at k
            refine k _ _ ⟨F13, J13, ?_⟩
            show _ = jn (opC (lxT f z y8)) (v8 e) (v13 e)
            rw [eo, ← e8, ← e13, jn10]
            first | exact (if_pos (by omega)).symm | exact (if_neg (by omega)).symm
          · refine wp_goto (tgt := 120) dX8_not3_112 (by decide) ?_
            refine wp_iconst dX8_not3_120 (by decide) ?_
            refine wp_goto (tgt := 125) dX8_not3_121 (by decide) ?_
            refine wp_iret rfl dX8_not3_125 ?_
            have ee : notP f z (some q) (gBn f z opC 1 P) x = pbd (P x) (fun y c v => gL f z opC P 1 y c v) := if_neg t1
            rw [ee, r8] at k
            have eo : opC (lxT f z y8) = -10 := if_pos t11
            have e2 : gL f z opC P 1 y8 c8 v8 = pbd (P (lxN f z y8)) (fun y c' v' => gL f z opC P 0 y (c8 ++ c' ++ [opC (lxT f z y8)]) (fun e => jn (opC (lxT f z y8)) (v8 e) (v' e))) := if_neg (by rw [eo]; decide)
            replace k : ∀ M' w, PoM M0 t f z o e (gL f z opC P 1 y8 c8 v8) M' w → Q (some (0, w)) M' := k
            rw [e2, r13] at k
            refine k _ _ ⟨F13, J13, ?_⟩
            show _ = jn (opC (lxT f z y8)) (v8 e) (v13 e)
            rw [eo, ← e8, ← e13, jn10]
            first | exact (if_pos (by omega)).symm | exact (if_neg (by omega)).symm
      · refine wp_if_ne (tgt := 77) dX8_not3_63 (by decide) (fun h => absurd h (by decide)) (fun _ => ?_)
        refine wp_aload_n dX8_not3_66 rfl rfl ?_
        refine wp_bipush dX8_not3_67 (by decide) (by decide) ?_
        refine wp_callV0 (d' := d - 1) cv_RX8_222 69 rfl [(0, 61)] [] rfl rfl (Or.inl ⟨_, _, rfl, by decide, rfl, by omega, by omega⟩) (by omega) (Nat.le_of_ble_eq_true rfl) dX8_not3_69 rfl (Nat.le_of_ble_eq_true rfl) (by omega) (loc1 := [(2, 69), (0, 61)]) rfl ?_
        refine sp_isSg hn J8 61 (by decide) (fun t14 => ?_) (fun t14 => ?_)
        · have g14 := ((J8).2.1.2.2.sgn (s := 61) (by decide)).mpr t14
          refine wp_if_ne (tgt := 77) dX8_not3_72 (by decide) (fun _ => ?_) (fun h => absurd h (by decide))
          refine wp_aload_n dX8_not3_77 rfl rfl ?_
          refine wp_get 69 rfl fl_RX8_175 rfl ⟨by omega, by omega⟩ dX8_not3_78 rfl (v := 61) (g14.2) ?_
          refine wp_ldc2 (x := 60) dX8_not3_81 kl_RX8_244 (by decide) (wr_l (by omega)) ?_
          refine wp_lcmp dX8_not3_84 ?_
          change Wp _ _ _ _ _ _ _ _ ((0, 1) :: _) _ _ _
          refine wp_if_ne (tgt := 92) dX8_not3_85 (by decide) (fun _ => ?_) (fun h => absurd h (by decide))
          refine wp_iconst dX8_not3_92 (by decide) ?_
          refine wp_istore_n (loc' := [(2, 69), (0, w8), (0, 0), (9, 0)]) dX8_not3_93 rfl (Nat.le_of_ble_eq_true rfl) rfl ?_
          refine wp_aload_n dX8_not3_94 rfl rfl ?_
          refine wp_callV0 (d' := d - 1) cv_RX8_197 69 rfl [] [] rfl rfl (Or.inl ⟨_, _, rfl, by decide, rfl, by omega, by omega⟩) (by omega) (Nat.le_of_ble_eq_true rfl) dX8_not3_95 rfl (Nat.le_of_ble_eq_true rfl) (by omega) (loc1 := [(2, 69), (9, 0), (9, 0)]) rfl ?_
          refine sp_next hn (by omega) hB (J8).1 ((J8).2.1.2.1 ((J8).2.1.2.2.ne4 (by omega))) (lxN_le B8).1 (fun M15 f15 l15 => ?_)
          have J15 := (J8).step f15 l15
          have F15 := (F8).tr (f15.mono VM1.r)
          have X15 := lxN_le (f := f) B8
          have Y15 := lxA_le (f := f) B8
          refine wp_aload_n dX8_not3_98 rfl rfl ?_
          refine wp_callV0 (d' := d - 1) cv_RX8_279 69 rfl [] [] rfl rfl (Or.inl ⟨_, _, rfl, by decide, rfl, by omega, by omega⟩) (by omega) (Nat.le_of_ble_eq_true rfl) dX8_not3_99 rfl (Nat.le_of_ble_eq_true rfl) (by omega) (loc1 := [(2, 69), (9, 0), (9, 0), (9, 0)]) rfl ?_
          refine hc _ _ _ _ (by omega) J15 X15.1 (fun M16 w16 q16 => ?_)
          obtain ⟨f16, q16⟩ := q16
          have F16 := (F15).tr f16
          have b16 := hqc _ X15.1
          generalize r16 : P (lxN f z y8) = u16 at q16 b16
          rcases u16 with p16 | ⟨y16, c16, v16⟩
          · have D16 : DJm M16 t f z p16 o e := q16
            refine wp_istore_n (loc' := [(2, 69), (0, w8), (0, 0), (0, w16)]) dX8_not3_102 rfl (Nat.le_of_ble_eq_true rfl) rfl ?_
            refine wp_iload_n dX8_not3_103 rfl rfl ?_
            refine wp_if_eq (tgt := 115) dX8_not3_104 (by decide) (fun _ => ?_) (fun h => absurd h (by decide))
            refine wp_iload_n dX8_not3_115 rfl rfl ?_
            refine wp_iload_n dX8_not3_116 rfl rfl ?_
            refine wp_icmp_ne (tgt := 124) dX8_not3_117 (by decide) (fun h117 => ?_) (fun h117 => ?_)
            · refine wp_iconst dX8_not3_124 (by decide) ?_
              refine wp_iret rfl dX8_not3_125 ?_
              have ee : notP f z (some q) (gBn f z opC 1 P) x = pbd (P x) (fun y c v => gL f z opC P 1 y c v) := if_neg t1
              rw [ee, r8] at k
              have eo : opC (lxT f z y8) = -11 := (if_neg t11).trans (if_pos t14)
              have e2 : gL f z opC P 1 y8 c8 v8 = pbd (P (lxN f z y8)) (fun y c' v' => gL f z opC P 0 y (c8 ++ c' ++ [opC (lxT f z y8)]) (fun e => jn (opC (lxT f z y8)) (v8 e) (v' e))) := if_neg (by rw [eo]; decide)
              replace k : ∀ M' w, PoM M0 t f z o e (gL f z opC P 1 y8 c8 v8) M' w → Q (some (0, w)) M' := k
              rw [e2, r16] at k
              exact k _ _ ⟨F16, D16⟩
            · refine wp_iconst dX8_not3_120 (by decide) ?_
              refine wp_goto (tgt := 125) dX8_not3_121 (by decide) ?_
              refine wp_iret rfl dX8_not3_125 ?_
              have ee : notP f z (some q) (gBn f z opC 1 P) x = pbd (P x) (fun y c v => gL f z opC P 1 y c v) := if_neg t1
              rw [ee, r8] at k
              have eo : opC (lxT f z y8) = -11 := (if_neg t11).trans (if_pos t14)
              have e2 : gL f z opC P 1 y8 c8 v8 = pbd (P (lxN f z y8)) (fun y c' v' => gL f z opC P 0 y (c8 ++ c' ++ [opC (lxT f z y8)]) (fun e => jn (opC (lxT f z y8)) (v8 e) (v' e))) := if_neg (by rw [eo]; decide)
              replace k : ∀ M' w, PoM M0 t f z o e (gL f z opC P 1 y8 c8 v8) M' w → Q (some (0, w)) M' := k
              rw [e2, r16] at k
              exact k _ _ ⟨F16, D16⟩
          · obtain ⟨J16, e16⟩ : RJm M16 t f z y16 o e ∧ w16 = v16 e := q16
            obtain ⟨b16, B16, _⟩ : (lxN f z y8) + c16.length ≤ y16 ∧ (y16 : Int) ≤ z ∧ _ := b16
            refine wp_istore_n (loc' := [(2, 69), (0, w8), (0, 0), (0, w16)]) dX8_not3_102 rfl (Nat.le_of_ble_eq_true rfl) rfl ?_
            refine wp_iload_n dX8_not3_103 rfl rfl ?_
            refine wp_if_eq (tgt := 115) dX8_not3_104 (by decide) (fun _ => ?_) (fun h => absurd h (by decide))
            refine wp_iload_n dX8_not3_115 rfl rfl ?_
            refine wp_iload_n dX8_not3_116 rfl rfl ?_
            refine wp_icmp_ne (tgt := 124) dX8_not3_117 (by decide) (fun h117 => ?_) (fun h117 => ?_)
            · refine wp_iconst dX8_not3_124 (by decide) ?_
              refine wp_iret rfl dX8_not3_125 ?_
              have ee : notP f z (some q) (gBn f z opC 1 P) x = pbd (P x) (fun y c v => gL f z opC P 1 y c v) := if_neg t1
              rw [ee, r8] at k
              have eo : opC (lxT f z y8) = -11 := (if_neg t11).trans (if_pos t14)
              have e2 : gL f z opC P 1 y8 c8 v8 = pbd (P (lxN f z y8)) (fun y c' v' => gL f z opC P 0 y (c8 ++ c' ++ [opC (lxT f z y8)]) (fun e => jn (opC (lxT f z y8)) (v8 e) (v' e))) := if_neg (by rw [eo]; decide)
              replace k : ∀ M' w, PoM M0 t f z o e (gL f z opC P 1 y8 c8 v8) M' w → Q (some (0, w)) M' := k
              rw [e2, r16] at k
              refine k _ _ ⟨F16, J16, ?_⟩
              show _ = jn (opC (lxT f z y8)) (v8 e) (v16 e)
              rw [eo, ← e8, ← e16, jn11]
              first | exact (if_pos (by omega)).symm | exact (if_neg (by omega)).symm
            · refine wp_iconst dX8_not3_120 (by decide) ?_
              refine wp_goto (tgt := 125) dX8_not3_121 (by decide) ?_
              refine wp_iret rfl dX8_not3_125 ?_
              have ee : notP f z (some q) (gBn f z opC 1 P) x = pbd (P x) (fun y c v => gL f z opC P 1 y c v) := if_neg t1
              rw [ee, r8] at k
              have eo : opC (lxT f z y8) = -11 := (if_neg t11).trans (if_pos t14)
              have e2 : gL f z opC P 1 y8 c8 v8 = pbd (P (lxN f z y8)) (fun y c' v' => gL f z opC P 0 y (c8 ++ c' ++ [opC (lxT f z y8)]) (fun e => jn (opC (lxT f z y8)) (v8 e) (v' e))) := if_neg (by rw [eo]; decide)
              replace k : ∀ M' w, PoM M0 t f z o e (gL f z opC P 1 y8 c8 v8) M' w → Q (some (0, w)) M' := k
              rw [e2, r16] at k
              refine k _ _ ⟨F16, J16, ?_⟩
              show _ = jn (opC (lxT f z y8)) (v8 e) (v16 e)
              rw [eo, ← e8, ← e16, jn11]
              first | exact (if_pos (by omega)).symm | exact (if_neg (by omega)).symm
        · refine wp_if_ne (tgt := 77) dX8_not3_72 (by decide) (fun h => absurd h (by decide)) (fun _ => ?_)
          refine wp_iload_n dX8_not3_75 rfl rfl ?_
          refine wp_iret rfl dX8_not3_76 ?_
          have ee : notP f z (some q) (gBn f z opC 1 P) x = pbd (P x) (fun y c v => gL f z opC P 1 y c v) := if_neg t1
          rw [ee, r8] at k
          have e2 : gL f z opC P 1 y8 c8 v8 = .inr (y8, c8, v8) := if_pos (show opC (lxT f z y8) = 0 from (if_neg t11).trans (if_neg t14))
          replace k : ∀ M' w, PoM M0 t f z o e (gL f z opC P 1 y8 c8 v8) M' w → Q (some (0, w)) M' := k
          rw [e2] at k
          exact k _ _ ⟨F8, J8, e8⟩
set_option maxRecDepth 20000 in
set_option maxHeartbeats 4000000 in
theorem lq_term4 {l : Launch} {g : Gw} {n : Nat} (hn : 90 ≤ n) {t : Nat} {f : Nat → Int} {z : Int} {e : Int → Int} {B : Nat} (hB8 : 12 ≤ B) (hB : BT f z) {o : Int} {P : Nat → PR} (hs : CMm l g n t f z e m_X8_atom4 [(9, 0)] B o P) (hq : ∀ x : Nat, (x : Int) ≤ z → PQ z x (P x)) {d : Nat} (hd : B + 1 ≤ d) : ∀ (m x : Nat) (ce : List Int) (vl : Vl) (v : Int) (M0 : Mm) (Q : Option Wd → Mm → Prop), z ≤ (x : Int) + m → RJm M0 t f z x o e → (x : Int) ≤ z → v = vl e → (∀ M' w, PoM M0 t f z o e (gL f z opT P m x ce vl) M' w → Q (some (0, w)) M') → Wp l g d 0 0 n m_X8_term4 5 [] [(2, 69), (0, v)] M0 Q := by
  intro m
  induction m with
  | zero =>
    intro x ce vl v M0 Q hm hJ hx hv k
    refine wp_aload_n dX8_term4_5 rfl rfl ?_
    refine wp_bipush dX8_term4_6 (by decide) (by decide) ?_
    refine wp_callV0 (d' := d - 1) cv_RX8_222 69 rfl [(0, 42)] [] rfl rfl (Or.inl ⟨_, _, rfl, by decide, rfl, by omega, by omega⟩) (by omega) (Nat.le_of_ble_eq_true rfl) dX8_term4_8 rfl (Nat.le_of_ble_eq_true rfl) (by omega) (loc1 := [(2, 69), (0, 42)]) rfl ?_
    refine sp_isSg hn hJ 42 (by decide) (fun t1 => absurd t1 (by rw [lxT_end (by omega)]; decide)) (fun t1 => ?_)
    refine wp_if_eq (tgt := 28) dX8_term4_11 (by decide) (fun _ => ?_) (fun h => absurd h (by decide))
    refine wp_iload_n dX8_term4_28 rfl rfl ?_
    refine wp_iret rfl dX8_term4_29 ?_
    exact k _ _ ⟨Fr.rf, hJ, hv⟩
  | succ m ih =>
    intro x ce vl v M0 Q hm hJ hx hv k
    refine wp_aload_n dX8_term4_5 rfl rfl ?_
    refine wp_bipush dX8_term4_6 (by decide) (by decide) ?_
    refine wp_callV0 (d' := d - 1) cv_RX8_222 69 rfl [(0, 42)] [] rfl rfl (Or.inl ⟨_, _, rfl, by decide, rfl, by omega, by omega⟩) (by omega) (Nat.le_of_ble_eq_true rfl) dX8_term4_8 rfl (Nat.le_of_ble_eq_true rfl) (by omega) (loc1 := [(2, 69), (0, 42)]) rfl ?_
    refine sp_isSg hn hJ 42 (by decide) (fun t1 => ?_) (fun t1 => ?_)
    · have g1 := ((hJ).2.1.2.2.sgn (s := 42) (by decide)).mpr t1
      refine wp_if_eq (tgt := 28) dX8_term4_11 (by decide) (fun h => absurd h (by decide)) (fun _ => ?_)
      refine wp_aload_n dX8_term4_14 rfl rfl ?_
      refine wp_callV0 (d' := d - 1) cv_RX8_197 69 rfl [] [] rfl rfl (Or.inl ⟨_, _, rfl, by decide, rfl, by omega, by omega⟩) (by omega) (Nat.le_of_ble_eq_true rfl) dX8_term4_15 rfl (Nat.le_of_ble_eq_true rfl) (by omega) (loc1 := [(2, 69), (9, 0), (9, 0)]) rfl ?_
      refine sp_next hn (by omega) hB (hJ).1 ((hJ).2.1.2.1 ((hJ).2.1.2.2.ne4 (by omega))) (lxN_le hx).1 (fun M2 f2 l2 => ?_)
      have J2 := (hJ).step f2 l2
      have F2 := ((Fr.rf : Fr VMr M0 M0)).tr (f2.mono VM1.r)
      have X2 := lxN_le (f := f) hx
      have Y2 := lxA_le (f := f) hx
      refine wp_iload_n dX8_term4_18 rfl rfl ?_
      refine wp_aload_n dX8_term4_19 rfl rfl ?_
      refine wp_callV0 (d' := d - 1) cv_RX8_255 69 rfl [] [(0, v)] rfl rfl (Or.inl ⟨_, _, rfl, by decide, rfl, by omega, by omega⟩) (by omega) (Nat.le_of_ble_eq_true rfl) dX8_term4_20 rfl (Nat.le_of_ble_eq_true rfl) (by omega) (loc1 := [(2, 69), (9, 0)]) rfl ?_
      refine hs _ _ _ _ (by omega) J2 X2.1 (fun M3 w3 q3 => ?_)
      obtain ⟨f3, q3⟩ := q3
      have F3 := (F2).tr f3
      have b3 := hq _ X2.1
      generalize r3 : P (lxN f z x) = u3 at q3 b3
      rcases u3 with p3 | ⟨y3, c3, v3⟩
      · have D3 : DJm M3 t f z p3 o e := q3
        refine wp_imulw dX8_term4_23 ?_
        refine wp_istore_n (loc' := [(2, 69), (0, (wrap (v * w3)))]) dX8_term4_24 rfl (Nat.le_of_ble_eq_true rfl) rfl ?_
        refine wp_goto (tgt := 5) dX8_term4_25 (by decide) ?_
        have eo : opT (lxT f z x) = -14 := if_pos t1
        have ee : gL f z opT P (m + 1) x ce vl = pbd (P (lxN f z x)) (fun y c' v' => gL f z opT P m y (ce ++ c' ++ [opT (lxT f z x)]) (fun e => jn (opT (lxT f z x)) (vl e) (v' e))) := if_neg (by rw [eo]; decide)
        rw [ee, r3] at k
        exact lqd_term4 hn (by omega) (D3) (fun M9 w9 f9 d9 => k M9 w9 ⟨(F3).tr f9, d9⟩)
      · obtain ⟨J3, e3⟩ : RJm M3 t f z y3 o e ∧ w3 = v3 e := q3
        obtain ⟨b3, B3, _⟩ : (lxN f z x) + c3.length ≤ y3 ∧ (y3 : Int) ≤ z ∧ _ := b3
        refine wp_imulw dX8_term4_23 ?_
        refine wp_istore_n (loc' := [(2, 69), (0, (wrap (v * w3)))]) dX8_term4_24 rfl (Nat.le_of_ble_eq_true rfl) rfl ?_
        refine wp_goto (tgt := 5) dX8_term4_25 (by decide) ?_
        have eo : opT (lxT f z x) = -14 := if_pos t1
        have ee : gL f z opT P (m + 1) x ce vl = pbd (P (lxN f z x)) (fun y c' v' => gL f z opT P m y (ce ++ c' ++ [opT (lxT f z x)]) (fun e => jn (opT (lxT f z x)) (vl e) (v' e))) := if_neg (by rw [eo]; decide)
        rw [ee, r3] at k
        have hv2 : (wrap (v * w3)) = jn (opT (lxT f z x)) (vl e) (v3 e) := by
          rw [eo, ← hv, ← e3, jn14]
        have hg := X2.2.2 (by omega)
        exact ih y3 _ (fun e => jn (opT (lxT f z x)) (vl e) (v3 e)) _ _ Q (by omega) J3 B3 hv2 (fun M9 w9 q9 => k M9 w9 ⟨(F3).tr q9.1, q9.2⟩)
    · refine wp_if_eq (tgt := 28) dX8_term4_11 (by decide) (fun _ => ?_) (fun h => absurd h (by decide))
      refine wp_iload_n dX8_term4_28 rfl rfl ?_
      refine wp_iret rfl dX8_term4_29 ?_
      have ee : gL f z opT P (m + 1) x ce vl = .inr (x, ce, vl) := if_pos (show opT (lxT f z x) = 0 from if_neg t1)
      rw [ee] at k
      exact k _ _ ⟨Fr.rf, hJ, hv⟩
set_option maxRecDepth 20000 in
set_option maxHeartbeats 4000000 in
theorem cm_term4 {l : Launch} {g : Gw} {n : Nat} (hn : 90 ≤ n) {t : Nat} {f : Nat → Int} {z : Int} {e : Int → Int} {B : Nat} (hB8 : 12 ≤ B) (hB : BT f z) {o : Int} {P : Nat → PR} (hs : CMm l g n t f z e m_X8_atom4 [(9, 0)] B o P) (hq : ∀ x : Nat, (x : Int) ≤ z → PQ z x (P x)) : CMm l g n t f z e m_X8_term4 [(9, 0)] (B + 1) o (gBn f z opT 160 P) := by
  intro d M0 Q x hd hJ hx k
  have hz1 := hJ.1.2.2.2.2.2.1
  refine wp_aload_n dX8_term4_0 rfl rfl ?_
  refine wp_callV0 (d' := d - 1) cv_RX8_255 69 rfl [] [] rfl rfl (Or.inl ⟨_, _, rfl, by decide, rfl, by omega, by omega⟩) (by omega) (Nat.le_of_ble_eq_true rfl) dX8_term4_1 rfl (Nat.le_of_ble_eq_true rfl) (by omega) (loc1 := [(2, 69), (9, 0)]) rfl ?_
  refine hs _ _ _ _ (by omega) hJ hx (fun M1 w1 q1 => ?_)
  obtain ⟨f1, q1⟩ := q1
  have F1 := ((Fr.rf : Fr VMr M0 M0)).tr f1
  have b1 := hq _ hx
  generalize r1 : P x = u1 at q1 b1
  rcases u1 with p1 | ⟨y1, c1, v1⟩
  · have D1 : DJm M1 t f z p1 o e := q1
    refine wp_istore_n (loc' := [(2, 69), (0, w1)]) dX8_term4_4 rfl (Nat.le_of_ble_eq_true rfl) rfl ?_
    have ee : gBn f z opT 160 P x = pbd (P x) (fun y c v => gL f z opT P 160 y c v) := rfl
    rw [ee, r1] at k
    exact lqd_term4 hn (by omega) (D1) (fun M9 w9 f9 d9 => k M9 w9 ⟨(F1).tr f9, d9⟩)
  · obtain ⟨J1, e1⟩ : RJm M1 t f z y1 o e ∧ w1 = v1 e := q1
    obtain ⟨b1, B1, _⟩ : x + c1.length ≤ y1 ∧ (y1 : Int) ≤ z ∧ _ := b1
    refine wp_istore_n (loc' := [(2, 69), (0, w1)]) dX8_term4_4 rfl (Nat.le_of_ble_eq_true rfl) rfl ?_
    have ee : gBn f z opT 160 P x = pbd (P x) (fun y c v => gL f z opT P 160 y c v) := rfl
    rw [ee, r1] at k
    exact lq_term4 hn hB8 hB hs hq hd 160 y1 c1 v1 w1 _ Q (by omega) J1 B1 e1 (fun M9 w9 q9 => k M9 w9 ⟨(F1).tr q9.1, q9.2⟩)
set_option maxRecDepth 20000 in
set_option maxHeartbeats 4000000 in
theorem lq_added4 {l : Launch} {g : Gw} {n : Nat} (hn : 90 ≤ n) {t : Nat} {f : Nat → Int} {z : Int} {e : Int → Int} {B : Nat} (hB8 : 12 ≤ B) (hB : BT f z) {o : Int} {P : Nat → PR} (hs : CMm l g n t f z e m_X8_term4 [(9, 0)] B o P) (hq : ∀ x : Nat, (x : Int) ≤ z → PQ z x (P x)) {d : Nat} (hd : B + 1 ≤ d) : ∀ (m x : Nat) (ce : List Int) (vl : Vl) (v : Int) (u2 : Wd) (u3 : Wd) (M0 : Mm) (Q : Option Wd → Mm → Prop), z ≤ (x : Int) + m → RJm M0 t f z x o e → (x : Int) ≤ z → v = vl e → (∀ M' w, PoM M0 t f z o e (gL f z opS P m x ce vl) M' w → Q (some (0, w)) M') → Wp l g d 0 0 n m_X8_added4 5 [] [(2, 69), (0, v), u2, u3] M0 Q := by
  intro m
  induction m with
  | zero =>
    intro x ce vl v u2 u3 M0 Q hm hJ hx hv k
    refine wp_aload_n dX8_added4_5 rfl rfl ?_
    refine wp_bipush dX8_added4_6 (by decide) (by decide) ?_
    refine wp_callV0 (d' := d - 1) cv_RX8_222 69 rfl [(0, 43)] [] rfl rfl (Or.inl ⟨_, _, rfl, by decide, rfl, by omega, by omega⟩) (by omega) (Nat.le_of_ble_eq_true rfl) dX8_added4_8 rfl (Nat.le_of_ble_eq_true rfl) (by omega) (loc1 := [(2, 69), (0, 43)]) rfl ?_
    refine sp_isSg hn hJ 43 (by decide) (fun t1 => absurd t1 (by rw [lxT_end (by omega)]; decide)) (fun t1 => ?_)
    refine wp_if_ne (tgt := 23) dX8_added4_11 (by decide) (fun h => absurd h (by decide)) (fun _ => ?_)
    refine wp_aload_n dX8_added4_14 rfl rfl ?_
    refine wp_bipush dX8_added4_15 (by decide) (by decide) ?_
    refine wp_callV0 (d' := d - 1) cv_RX8_222 69 rfl [(0, 45)] [] rfl rfl (Or.inl ⟨_, _, rfl, by decide, rfl, by omega, by omega⟩) (by omega) (Nat.le_of_ble_eq_true rfl) dX8_added4_17 rfl (Nat.le_of_ble_eq_true rfl) (by omega) (loc1 := [(2, 69), (0, 45)]) rfl ?_
    refine sp_isSg hn hJ 45 (by decide) (fun t2 => absurd t2 (by rw [lxT_end (by omega)]; decide)) (fun t2 => ?_)
    refine wp_if_eq (tgt := 66) dX8_added4_20 (by decide) (fun _ => ?_) (fun h => absurd h (by decide))
    refine wp_iload_n dX8_added4_66 rfl rfl ?_
    refine wp_iret rfl dX8_added4_67 ?_
    exact k _ _ ⟨Fr.rf, hJ, hv⟩
  | succ m ih =>
    intro x ce vl v u2 u3 M0 Q hm hJ hx hv k
    refine wp_aload_n dX8_added4_5 rfl rfl ?_
    refine wp_bipush dX8_added4_6 (by decide) (by decide) ?_
    refine wp_callV0 (d' := d - 1) cv_RX8_222 69 rfl [(0, 43)] [] rfl rfl (Or.inl ⟨_, _, rfl, by decide, rfl, by omega, by omega⟩) (by omega) (Nat.le_of_ble_eq_true rfl) dX8_added4_8 rfl (Nat.le_of_ble_eq_true rfl) (by omega) (loc1 := [(2, 69), (0, 43)]) rfl ?_
    refine sp_isSg hn hJ 43 (by decide) (fun t1 => ?_) (fun t1 => ?_)
    · have g1 := ((hJ).2.1.2.2.sgn (s := 43) (by decide)).mpr t1
      refine wp_if_ne (tgt := 23) dX8_added4_11 (by decide) (fun _ => ?_) (fun h => absurd h (by decide))
      refine wp_aload_n dX8_added4_23 rfl rfl ?_
      refine wp_get 69 rfl fl_RX8_175 rfl ⟨by omega, by omega⟩ dX8_added4_24 rfl (v := 43) (g1.2) ?_
      refine wp_ldc2 (x := 43) dX8_added4_27 kl_RX8_239 (by decide) (wr_l (by omega)) ?_
      refine wp_lcmp dX8_added4_30 ?_
      change Wp _ _ _ _ _ _ _ _ ((0, 0) :: _) _ _ _
      refine wp_if_ne (tgt := 38) dX8_added4_31 (by decide) (fun h => absurd h (by decide)) (fun _ => ?_)
      refine wp_iconst dX8_added4_34 (by decide) ?_
      refine wp_goto (tgt := 39) dX8_added4_35 (by decide) ?_
      refine wp_istore_n (loc' := [(2, 69), (0, v), (0, 1), u3]) dX8_added4_39 rfl (Nat.le_of_ble_eq_true rfl) rfl ?_
      refine wp_aload_n dX8_added4_40 rfl rfl ?_
      refine wp_callV0 (d' := d - 1) cv_RX8_197 69 rfl [] [] rfl rfl (Or.inl ⟨_, _, rfl, by decide, rfl, by omega, by omega⟩) (by omega) (Nat.le_of_ble_eq_true rfl) dX8_added4_41 rfl (Nat.le_of_ble_eq_true rfl) (by omega) (loc1 := [(2, 69), (9, 0), (9, 0)]) rfl ?_
      refine sp_next hn (by omega) hB (hJ).1 ((hJ).2.1.2.1 ((hJ).2.1.2.2.ne4 (by omega))) (lxN_le hx).1 (fun M2 f2 l2 => ?_)
      have J2 := (hJ).step f2 l2
      have F2 := ((Fr.rf : Fr VMr M0 M0)).tr (f2.mono VM1.r)
      have X2 := lxN_le (f := f) hx
      have Y2 := lxA_le (f := f) hx
      refine wp_aload_n dX8_added4_44 rfl rfl ?_
      refine wp_callV0 (d' := d - 1) cv_RX8_258 69 rfl [] [] rfl rfl (Or.inl ⟨_, _, rfl, by decide, rfl, by omega, by omega⟩) (by omega) (Nat.le_of_ble_eq_true rfl) dX8_added4_45 rfl (Nat.le_of_ble_eq_true rfl) (by omega) (loc1 := [(2, 69), (9, 0)]) rfl ?_
      refine hs _ _ _ _ (by omega) J2 X2.1 (fun M3 w3 q3 => ?_)
      obtain ⟨f3, q3⟩ := q3
      have F3 := (F2).tr f3
      have b3 := hq _ X2.1
      generalize r3 : P (lxN f z x) = u3 at q3 b3
      rcases u3 with p3 | ⟨y3, c3, v3⟩
      · have D3 : DJm M3 t f z p3 o e := q3
        refine wp_istore_n (loc' := [(2, 69), (0, v), (0, 1), (0, w3)]) dX8_added4_48 rfl (Nat.le_of_ble_eq_true rfl) rfl ?_
        refine wp_iload_n dX8_added4_49 rfl rfl ?_
        refine wp_if_eq (tgt := 59) dX8_added4_50 (by decide) (fun h => absurd h (by decide)) (fun _ => ?_)
        refine wp_iload_n dX8_added4_53 rfl rfl ?_
        refine wp_iload_n dX8_added4_54 rfl rfl ?_
        refine wp_iaddw dX8_added4_55 ?_
        refine wp_goto (tgt := 62) dX8_added4_56 (by decide) ?_
        refine wp_istore_n (loc' := [(2, 69), (0, (wrap (v + w3))), (0, 1), (0, w3)]) dX8_added4_62 rfl (Nat.le_of_ble_eq_true rfl) rfl ?_
        refine wp_goto (tgt := 5) dX8_added4_63 (by decide) ?_
        have eo : opS (lxT f z x) = -12 := if_pos t1
        have ee : gL f z opS P (m + 1) x ce vl = pbd (P (lxN f z x)) (fun y c' v' => gL f z opS P m y (ce ++ c' ++ [opS (lxT f z x)]) (fun e => jn (opS (lxT f z x)) (vl e) (v' e))) := if_neg (by rw [eo]; decide)
        rw [ee, r3] at k
        exact lqd_added4 hn (by omega) (D3) (fun M9 w9 f9 d9 => k M9 w9 ⟨(F3).tr f9, d9⟩)
      · obtain ⟨J3, e3⟩ : RJm M3 t f z y3 o e ∧ w3 = v3 e := q3
        obtain ⟨b3, B3, _⟩ : (lxN f z x) + c3.length ≤ y3 ∧ (y3 : Int) ≤ z ∧ _ := b3
        refine wp_istore_n (loc' := [(2, 69), (0, v), (0, 1), (0, w3)]) dX8_added4_48 rfl (Nat.le_of_ble_eq_true rfl) rfl ?_
        refine wp_iload_n dX8_added4_49 rfl rfl ?_
        refine wp_if_eq (tgt := 59) dX8_added4_50 (by decide) (fun h => absurd h (by decide)) (fun _ => ?_)
        refine wp_iload_n dX8_added4_53 rfl rfl ?_
        refine wp_iload_n dX8_added4_54 rfl rfl ?_
        refine wp_iaddw dX8_added4_55 ?_
        refine wp_goto (tgt := 62) dX8_added4_56 (by decide) ?_
        refine wp_istore_n (loc' := [(2, 69), (0, (wrap (v + w3))), (0, 1), (0, w3)]) dX8_added4_62 rfl (Nat.le_of_ble_eq_true rfl) rfl ?_
        refine wp_goto (tgt := 5) dX8_added4_63 (by decide) ?_
        have eo : opS (lxT f z x) = -12 := if_pos t1
        have ee : gL f z opS P (m + 1) x ce vl = pbd (P (lxN f z x)) (fun y c' v' => gL f z opS P m y (ce ++ c' ++ [opS (lxT f z x)]) (fun e => jn (opS (lxT f z x)) (vl e) (v' e))) := if_neg (by rw [eo]; decide)
        rw [ee, r3] at k
        have hv2 : (wrap (v + w3)) = jn (opS (lxT f z x)) (vl e) (v3 e) := by
          rw [eo, ← hv, ← e3, jn12]
        have hg := X2.2.2 (by omega)
        exact ih y3 _ (fun e => jn (opS (lxT f z x)) (vl e) (v3 e)) _ _ _ _ Q (by omega) J3 B3 hv2 (fun M9 w9 q9 => k M9 w9 ⟨(F3).tr q9.1, q9.2⟩)
    · refine wp_if_ne (tgt := 23) dX8_added4_11 (by decide) (fun h => absurd h (by decide)) (fun _ => ?_)
      refine wp_aload_n dX8_added4_14 rfl rfl ?_
      refine wp_bipush dX8_added4_15 (by decide) (by decide) ?_
      refine wp_callV0 (d' := d - 1) cv_RX8_222 69 rfl [(0, 45)] [] rfl rfl (Or.inl ⟨_, _, rfl, by decide, rfl, by omega, by omega⟩) (by omega) (Nat.le_of_ble_eq_true rfl) dX8_added4_17 rfl (Nat.le_of_ble_eq_true rfl) (by omega) (loc1 := [(2, 69), (0, 45)]) rfl ?_
      refine sp_isSg hn hJ 45 (by decide) (fun t4 => ?_) (fun t4 => ?_)
      · have g4 := ((hJ).2.1.2.2.sgn (s := 45) (by decide)).mpr t4
        refine wp_if_eq (tgt := 66) dX8_added4_20 (by decide) (fun h => absurd h (by decide)) (fun _ => ?_)
        refine wp_aload_n dX8_added4_23 rfl rfl ?_
        refine wp_get 69 rfl fl_RX8_175 rfl ⟨by omega, by omega⟩ dX8_added4_24 rfl (v := 45) (g4.2) ?_
        refine wp_ldc2 (x := 43) dX8_added4_27 kl_RX8_239 (by decide) (wr_l (by omega)) ?_
        refine wp_lcmp dX8_added4_30 ?_
        change Wp _ _ _ _ _ _ _ _ ((0, 1) :: _) _ _ _
        refine wp_if_ne (tgt := 38) dX8_added4_31 (by decide) (fun _ => ?_) (fun h => absurd h (by decide))
        refine wp_iconst dX8_added4_38 (by decide) ?_
        refine wp_istore_n (loc' := [(2, 69), (0, v), (0, 0), u3]) dX8_added4_39 rfl (Nat.le_of_ble_eq_true rfl) rfl ?_
        refine wp_aload_n dX8_added4_40 rfl rfl ?_
        refine wp_callV0 (d' := d - 1) cv_RX8_197 69 rfl [] [] rfl rfl (Or.inl ⟨_, _, rfl, by decide, rfl, by omega, by omega⟩) (by omega) (Nat.le_of_ble_eq_true rfl) dX8_added4_41 rfl (Nat.le_of_ble_eq_true rfl) (by omega) (loc1 := [(2, 69), (9, 0), (9, 0)]) rfl ?_
        refine sp_next hn (by omega) hB (hJ).1 ((hJ).2.1.2.1 ((hJ).2.1.2.2.ne4 (by omega))) (lxN_le hx).1 (fun M5 f5 l5 => ?_)
        have J5 := (hJ).step f5 l5
        have F5 := ((Fr.rf : Fr VMr M0 M0)).tr (f5.mono VM1.r)
        have X5 := lxN_le (f := f) hx
        have Y5 := lxA_le (f := f) hx
        refine wp_aload_n dX8_added4_44 rfl rfl ?_
        refine wp_callV0 (d' := d - 1) cv_RX8_258 69 rfl [] [] rfl rfl (Or.inl ⟨_, _, rfl, by decide, rfl, by omega, by omega⟩) (by omega) (Nat.le_of_ble_eq_true rfl) dX8_added4_45 rfl (Nat.le_of_ble_eq_true rfl) (by omega) (loc1 := [(2, 69), (9, 0)]) rfl ?_
        refine hs _ _ _ _ (by omega) J5 X5.1 (fun M6 w6 q6 => ?_)
        obtain ⟨f6, q6⟩ := q6
        have F6 := (F5).tr f6
        have b6 := hq _ X5.1
        generalize r6 : P (lxN f z x) = u6 at q6 b6
        rcases u6 with p6 | ⟨y6, c6, v6⟩
        · have D6 : DJm M6 t f z p6 o e := q6
          refine wp_istore_n (loc' := [(2, 69), (0, v), (0, 0), (0, w6)]) dX8_added4_48 rfl (Nat.le_of_ble_eq_true rfl) rfl ?_
          refine wp_iload_n dX8_added4_49 rfl rfl ?_
          refine wp_if_eq (tgt := 59) dX8_added4_50 (by decide) (fun _ => ?_) (fun h => absurd h (by decide))
          refine wp_iload_n dX8_added4_59 rfl rfl ?_
          refine wp_iload_n dX8_added4_60 rfl rfl ?_
          refine wp_isubw dX8_added4_61 ?_
          refine wp_istore_n (loc' := [(2, 69), (0, (wrap (v - w6))), (0, 0), (0, w6)]) dX8_added4_62 rfl (Nat.le_of_ble_eq_true rfl) rfl ?_
          refine wp_goto (tgt := 5) dX8_added4_63 (by decide) ?_
          have eo : opS (lxT f z x) = -13 := (if_neg t1).trans (if_pos t4)
          have ee : gL f z opS P (m + 1) x ce vl = pbd (P (lxN f z x)) (fun y c' v' => gL f z opS P m y (ce ++ c' ++ [opS (lxT f z x)]) (fun e => jn (opS (lxT f z x)) (vl e) (v' e))) := if_neg (by rw [eo]; decide)
          rw [ee, r6] at k
          exact lqd_added4 hn (by omega) (D6) (fun M9 w9 f9 d9 => k M9 w9 ⟨(F6).tr f9, d9⟩)
        · obtain ⟨J6, e6⟩ : RJm M6 t f z y6 o e ∧ w6 = v6 e := q6
          obtain ⟨b6, B6, _⟩ : (lxN f z x) + c6.length ≤ y6 ∧ (y6 : Int) ≤ z ∧ _ := b6
          refine wp_istore_n (loc' := [(2, 69), (0, v), (0, 0), (0, w6)]) dX8_added4_48 rfl (Nat.le_of_ble_eq_true rfl) rfl ?_
          refine wp_iload_n dX8_added4_49 rfl rfl ?_
          refine wp_if_eq (tgt := 59) dX8_added4_50 (by decide) (fun _ => ?_) (fun h => absurd h (by decide))
          refine wp_iload_n dX8_added4_59 rfl rfl ?_
          refine wp_iload_n dX8_added4_60 rfl rfl ?_
          refine wp_isubw dX8_added4_61 ?_
          refine wp_istore_n (loc' := [(2, 69), (0, (wrap (v - w6))), (0, 0), (0, w6)]) dX8_added4_62 rfl (Nat.le_of_ble_eq_true rfl) rfl ?_
          refine wp_goto (tgt := 5) dX8_added4_63 (by decide) ?_
          have eo : opS (lxT f z x) = -13 := (if_neg t1).trans (if_pos t4)
          have ee : gL f z opS P (m + 1) x ce vl = pbd (P (lxN f z x)) (fun y c' v' => gL f z opS P m y (ce ++ c' ++ [opS (lxT f z x)]) (fun e => jn (opS (lxT f z x)) (vl e) (v' e))) := if_neg (by rw [eo]; decide)
          rw [ee, r6] at k
          have hv2 : (wrap (v - w6)) = jn (opS (lxT f z x)) (vl e) (v6 e) := by
            rw [eo, ← hv, ← e6, jn13]
          have hg := X5.2.2 (by omega)
          exact ih y6 _ (fun e => jn (opS (lxT f z x)) (vl e) (v6 e)) _ _ _ _ Q (by omega) J6 B6 hv2 (fun M9 w9 q9 => k M9 w9 ⟨(F6).tr q9.1, q9.2⟩)
      · refine wp_if_eq (tgt := 66) dX8_added4_20 (by decide) (fun _ => ?_) (fun h => absurd h (by decide))
        refine wp_iload_n dX8_added4_66 rfl rfl ?_
        refine wp_iret rfl dX8_added4_67 ?_
        have ee : gL f z opS P (m + 1) x ce vl = .inr (x, ce, vl) := if_pos (show opS (lxT f z x) = 0 from (if_neg t1).trans (if_neg t4))
        rw [ee] at k
        exact k _ _ ⟨Fr.rf, hJ, hv⟩
set_option maxRecDepth 20000 in
set_option maxHeartbeats 4000000 in
theorem cm_added4 {l : Launch} {g : Gw} {n : Nat} (hn : 90 ≤ n) {t : Nat} {f : Nat → Int} {z : Int} {e : Int → Int} {B : Nat} (hB8 : 12 ≤ B) (hB : BT f z) {o : Int} {P : Nat → PR} (hs : CMm l g n t f z e m_X8_term4 [(9, 0)] B o P) (hq : ∀ x : Nat, (x : Int) ≤ z → PQ z x (P x)) : CMm l g n t f z e m_X8_added4 [(9, 0), (9, 0), (9, 0)] (B + 1) o (gBn f z opS 160 P) := by
  intro d M0 Q x hd hJ hx k
  have hz1 := hJ.1.2.2.2.2.2.1
  refine wp_aload_n dX8_added4_0 rfl rfl ?_
  refine wp_callV0 (d' := d - 1) cv_RX8_258 69 rfl [] [] rfl rfl (Or.inl ⟨_, _, rfl, by decide, rfl, by omega, by omega⟩) (by omega) (Nat.le_of_ble_eq_true rfl) dX8_added4_1 rfl (Nat.le_of_ble_eq_true rfl) (by omega) (loc1 := [(2, 69), (9, 0)]) rfl ?_
  refine hs _ _ _ _ (by omega) hJ hx (fun M1 w1 q1 => ?_)
  obtain ⟨f1, q1⟩ := q1
  have F1 := ((Fr.rf : Fr VMr M0 M0)).tr f1
  have b1 := hq _ hx
  generalize r1 : P x = u1 at q1 b1
  rcases u1 with p1 | ⟨y1, c1, v1⟩
  · have D1 : DJm M1 t f z p1 o e := q1
    refine wp_istore_n (loc' := [(2, 69), (0, w1), (9, 0), (9, 0)]) dX8_added4_4 rfl (Nat.le_of_ble_eq_true rfl) rfl ?_
    have ee : gBn f z opS 160 P x = pbd (P x) (fun y c v => gL f z opS P 160 y c v) := rfl
    rw [ee, r1] at k
    exact lqd_added4 hn (by omega) (D1) (fun M9 w9 f9 d9 => k M9 w9 ⟨(F1).tr f9, d9⟩)
  · obtain ⟨J1, e1⟩ : RJm M1 t f z y1 o e ∧ w1 = v1 e := q1
    obtain ⟨b1, B1, _⟩ : x + c1.length ≤ y1 ∧ (y1 : Int) ≤ z ∧ _ := b1
    refine wp_istore_n (loc' := [(2, 69), (0, w1), (9, 0), (9, 0)]) dX8_added4_4 rfl (Nat.le_of_ble_eq_true rfl) rfl ?_
    have ee : gBn f z opS 160 P x = pbd (P x) (fun y c v => gL f z opS P 160 y c v) := rfl
    rw [ee, r1] at k
    exact lq_added4 hn hB8 hB hs hq hd 160 y1 c1 v1 w1 _ _ _ Q (by omega) J1 B1 e1 (fun M9 w9 q9 => k M9 w9 ⟨(F1).tr q9.1, q9.2⟩)
set_option maxRecDepth 20000 in
set_option maxHeartbeats 4000000 in
theorem lq_both4 {l : Launch} {g : Gw} {n : Nat} (hn : 90 ≤ n) {t : Nat} {f : Nat → Int} {z : Int} {e : Int → Int} {B : Nat} (hB8 : 12 ≤ B) (hB : BT f z) {o : Int} {P : Nat → PR} (hs : CMm l g n t f z e m_X8_not4 [(9, 0), (9, 0), (9, 0)] B o P) (hq : ∀ x : Nat, (x : Int) ≤ z → PQ z x (P x)) {d : Nat} (hd : B + 1 ≤ d) : ∀ (m x : Nat) (ce : List Int) (vl : Vl) (v : Int) (u2 : Wd) (M0 : Mm) (Q : Option Wd → Mm → Prop), z ≤ (x : Int) + m → RJm M0 t f z x o e → (x : Int) ≤ z → v = vl e → (∀ M' w, PoM M0 t f z o e (gL f z opA P m x ce vl) M' w → Q (some (0, w)) M') → Wp l g d 0 0 n m_X8_both4 5 [] [(2, 69), (0, v), u2] M0 Q := by
  intro m
  induction m with
  | zero =>
    intro x ce vl v u2 M0 Q hm hJ hx hv k
    refine wp_aload_n dX8_both4_5 rfl rfl ?_
    refine wp_bipush dX8_both4_6 (by decide) (by decide) ?_
    refine wp_bipush dX8_both4_8 (by decide) (by decide) ?_
    refine wp_bipush dX8_both4_10 (by decide) (by decide) ?_
    refine wp_iconst dX8_both4_12 (by decide) ?_
    refine wp_iconst dX8_both4_13 (by decide) ?_
    refine wp_iconst dX8_both4_14 (by decide) ?_
    refine wp_iconst dX8_both4_15 (by decide) ?_
    refine wp_iconst dX8_both4_16 (by decide) ?_
    refine wp_callV0 (d' := d - 1) cv_RX8_200 69 rfl [(0, 97), (0, 110), (0, 100), (0, 0), (0, 0), (0, 0), (0, 0), (0, 0)] [] rfl rfl (Or.inl ⟨_, _, rfl, by decide, rfl, by omega, by omega⟩) (by omega) (Nat.le_of_ble_eq_true rfl) dX8_both4_17 rfl (Nat.le_of_ble_eq_true rfl) (by omega) (loc1 := [(2, 69), (0, 97), (0, 110), (0, 100), (0, 0), (0, 0), (0, 0), (0, 0), (0, 0)]) rfl ?_
    refine sp_isWm_4 hn (by omega) hJ hx (fun t1 => absurd t1 (by rw [lxT_end (by omega)]; decide)) (fun t1 => ?_)
    refine wp_if_eq (tgt := 49) dX8_both4_20 (by decide) (fun _ => ?_) (fun h => absurd h (by decide))
    refine wp_iload_n dX8_both4_49 rfl rfl ?_
    refine wp_iret rfl dX8_both4_50 ?_
    exact k _ _ ⟨Fr.rf, hJ, hv⟩
  | succ m ih =>
    intro x ce vl v u2 M0 Q hm hJ hx hv k
    refine wp_aload_n dX8_both4_5 rfl rfl ?_
    refine wp_bipush dX8_both4_6 (by decide) (by decide) ?_
    refine wp_bipush dX8_both4_8 (by decide) (by decide) ?_
    refine wp_bipush dX8_both4_10 (by decide) (by decide) ?_
    refine wp_iconst dX8_both4_12 (by decide) ?_
    refine wp_iconst dX8_both4_13 (by decide) ?_
    refine wp_iconst dX8_both4_14 (by decide) ?_
    refine wp_iconst dX8_both4_15 (by decide) ?_
    refine wp_iconst dX8_both4_16 (by decide) ?_
    refine wp_callV0 (d' := d - 1) cv_RX8_200 69 rfl [(0, 97), (0, 110), (0, 100), (0, 0), (0, 0), (0, 0), (0, 0), (0, 0)] [] rfl rfl (Or.inl ⟨_, _, rfl, by decide, rfl, by omega, by omega⟩) (by omega) (Nat.le_of_ble_eq_true rfl) dX8_both4_17 rfl (Nat.le_of_ble_eq_true rfl) (by omega) (loc1 := [(2, 69), (0, 97), (0, 110), (0, 100), (0, 0), (0, 0), (0, 0), (0, 0), (0, 0)]) rfl ?_
    refine sp_isWm_4 hn (by omega) hJ hx (fun t1 => ?_) (fun t1 => ?_)
    · refine wp_if_eq (tgt := 49) dX8_both4_20 (by decide) (fun h => absurd h (by decide)) (fun _ => ?_)
      refine wp_aload_n dX8_both4_23 rfl rfl ?_
      refine wp_callV0 (d' := d - 1) cv_RX8_197 69 rfl [] [] rfl rfl (Or.inl ⟨_, _, rfl, by decide, rfl, by omega, by omega⟩) (by omega) (Nat.le_of_ble_eq_true rfl) dX8_both4_24 rfl (Nat.le_of_ble_eq_true rfl) (by omega) (loc1 := [(2, 69), (9, 0), (9, 0)]) rfl ?_
      refine sp_next hn (by omega) hB (hJ).1 ((hJ).2.1.2.1 ((hJ).2.1.2.2.ne4 (by omega))) (lxN_le hx).1 (fun M2 f2 l2 => ?_)
      have J2 := (hJ).step f2 l2
      have F2 := ((Fr.rf : Fr VMr M0 M0)).tr (f2.mono VM1.r)
      have X2 := lxN_le (f := f) hx
      have Y2 := lxA_le (f := f) hx
      refine wp_aload_n dX8_both4_27 rfl rfl ?_
      refine wp_callV0 (d' := d - 1) cv_RX8_264 69 rfl [] [] rfl rfl (Or.inl ⟨_, _, rfl, by decide, rfl, by omega, by omega⟩) (by omega) (Nat.le_of_ble_eq_true rfl) dX8_both4_28 rfl (Nat.le_of_ble_eq_true rfl) (by omega) (loc1 := [(2, 69), (9, 0), (9, 0), (9, 0)]) rfl ?_
      refine hs _ _ _ _ (by omega) J2 X2.1 (fun M3 w3 q3 => ?_)
      obtain ⟨f3, q3⟩ := q3
      have F3 := (F2).tr f3
      have b3 := hq _ X2.1
      generalize r3 : P (lxN f z x) = u3 at q3 b3
      rcases u3 with p3 | ⟨y3, c3, v3⟩
      · have D3 : DJm M3 t f z p3 o e := q3
        refine wp_istore_n (loc' := [(2, 69), (0, v), (0, w3)]) dX8_both4_31 rfl (Nat.le_of_ble_eq_true rfl) rfl ?_
        refine wp_iload_n dX8_both4_32 rfl rfl ?_
        refine wp_if_eq (tgt := 44) dX8_both4_33 (by decide) (fun h33 => ?_) (fun h33 => ?_)
        · refine wp_iconst dX8_both4_44 (by decide) ?_
          refine wp_istore_n (loc' := [(2, 69), (0, 0), (0, w3)]) dX8_both4_45 rfl (Nat.le_of_ble_eq_true rfl) rfl ?_
          refine wp_goto (tgt := 5) dX8_both4_46 (by decide) ?_
          have eo : opA (lxT f z x) = -8 := if_pos t1
          have ee : gL f z opA P (m + 1) x ce vl = pbd (P (lxN f z x)) (fun y c' v' => gL f z opA P m y (ce ++ c' ++ [opA (lxT f z x)]) (fun e => jn (opA (lxT f z x)) (vl e) (v' e))) := if_neg (by rw [eo]; decide)
          rw [ee, r3] at k
          exact lqd_both4 hn (by omega) (D3) (fun M9 w9 f9 d9 => k M9 w9 ⟨(F3).tr f9, d9⟩)
        · refine wp_iload_n dX8_both4_36 rfl rfl ?_
          refine wp_if_eq (tgt := 44) dX8_both4_37 (by decide) (fun h37 => ?_) (fun h37 => ?_)
          · refine wp_iconst dX8_both4_44 (by decide) ?_
            refine wp_istore_n (loc' := [(2, 69), (0, 0), (0, w3)]) dX8_both4_45 rfl (Nat.le_of_ble_eq_true rfl) rfl ?_
            refine wp_goto (tgt := 5) dX8_both4_46 (by decide) ?_
            have eo : opA (lxT f z x) = -8 := if_pos t1
            have ee : gL f z opA P (m + 1) x ce vl = pbd (P (lxN f z x)) (fun y c' v' => gL f z opA P m y (ce ++ c' ++ [opA (lxT f z x)]) (fun e => jn (opA (lxT f z x)) (vl e) (v' e))) := if_neg (by rw [eo]; decide)
            rw [ee, r3] at k
            exact lqd_both4 hn (by omega) (D3) (fun M9 w9 f9 d9 => k M9 w9 ⟨(F3).tr f9, d9⟩)
          · refine wp_iconst dX8_both4_40 (by decide) ?_
            refine wp_goto (tgt := 45) dX8_both4_41 (by decide) ?_
            refine wp_istore_n (loc' := [(2, 69), (0, 1), (0, w3)]) dX8_both4_45 rfl (Nat.le_of_ble_eq_true rfl) rfl ?_
            refine wp_goto (tgt := 5) dX8_both4_46 (by decide) ?_
            have eo : opA (lxT f z x) = -8 := if_pos t1
            have ee : gL f z opA P (m + 1) x ce vl = pbd (P (lxN f z x)) (fun y c' v' => gL f z opA P m y (ce ++ c' ++ [opA (lxT f z x)]) (fun e => jn (opA (lxT f z x)) (vl e) (v' e))) := if_neg (by rw [eo]; decide)
            rw [ee, r3] at k
            exact lqd_both4 hn (by omega) (D3) (fun M9 w9 f9 d9 => k M9 w9 ⟨(F3).tr f9, d9⟩)
      · obtain ⟨J3, e3⟩ : RJm M3 t f z y3 o e ∧ w3 = v3 e := q3
        obtain ⟨b3, B3, _⟩ : (lxN f z x) + c3.length ≤ y3 ∧ (y3 : Int) ≤ z ∧ _ := b3
        refine wp_istore_n (loc' := [(2, 69), (0, v), (0, w3)]) dX8_both4_31 rfl (Nat.le_of_ble_eq_true rfl) rfl ?_
        refine wp_iload_n dX8_both4_32 rfl rfl ?_
        refine wp_if_eq (tgt := 44) dX8_both4_33 (by decide) (fun h33 => ?_) (fun h33 => ?_)
        · refine wp_iconst dX8_both4_44 (by decide) ?_
          refine wp_istore_n (loc' := [(2, 69), (0, 0), (0, w3)]) dX8_both4_45 rfl (Nat.le_of_ble_eq_true rfl) rfl ?_
          refine wp_goto (tgt := 5) dX8_both4_46 (by decide) ?_
          have eo : opA (lxT f z x) = -8 := if_pos t1
          have ee : gL f z opA P (m + 1) x ce vl = pbd (P (lxN f z x)) (fun y c' v' => gL f z opA P m y (ce ++ c' ++ [opA (lxT f z x)]) (fun e => jn (opA (lxT f z x)) (vl e) (v' e))) := if_neg (by rw [eo]; decide)
          rw [ee, r3] at k
          have hv2 : 0 = jn (opA (lxT f z x)) (vl e) (v3 e) := by
            rw [eo, ← hv, ← e3, jn8]
            first | exact (if_pos (by omega)).symm | exact (if_neg (by omega)).symm
          have hg := X2.2.2 (by omega)
          exact ih y3 _ (fun e => jn (opA (lxT f z x)) (vl e) (v3 e)) _ _ _ Q (by omega) J3 B3 hv2 (fun M9 w9 q9 => k M9 w9 ⟨(F3).tr q9.1, q9.2⟩)
        · refine wp_iload_n dX8_both4_36 rfl rfl ?_
          refine wp_if_eq (tgt := 44) dX8_both4_37 (by decide) (fun h37 => ?_) (fun h37 => ?_)
          · refine wp_iconst dX8_both4_44 (by decide) ?_
            refine wp_istore_n (loc' := [(2, 69), (0, 0), (0, w3)]) dX8_both4_45 rfl (Nat.le_of_ble_eq_true rfl) rfl ?_
            refine wp_goto (tgt := 5) dX8_both4_46 (by decide) ?_
            have eo : opA (lxT f z x) = -8 := if_pos t1
            have ee : gL f z opA P (m + 1) x ce vl = pbd (P (lxN f z x)) (fun y c' v' => gL f z opA P m y (ce ++ c' ++ [opA (lxT f z x)]) (fun e => jn (opA (lxT f z x)) (vl e) (v' e))) := if_neg (by rw [eo]; decide)
            rw [ee, r3] at k
            have hv2 : 0 = jn (opA (lxT f z x)) (vl e) (v3 e) := by
              rw [eo, ← hv, ← e3, jn8]
              first | exact (if_pos (by omega)).symm | exact (if_neg (by omega)).symm
            have hg := X2.2.2 (by omega)
            exact ih y3 _ (fun e => jn (opA (lxT f z x)) (vl e) (v3 e)) _ _ _ Q (by omega) J3 B3 hv2 (fun M9 w9 q9 => k M9 w9 ⟨(F3).tr q9.1, q9.2⟩)
          · refine wp_iconst dX8_both4_40 (by decide) ?_
            refine wp_goto (tgt := 45) dX8_both4_41 (by decide) ?_
            refine wp_istore_n (loc' := [(2, 69), (0, 1), (0, w3)]) dX8_both4_45 rfl (Nat.le_of_ble_eq_true rfl) rfl ?_
            refine wp_goto (tgt := 5) dX8_both4_46 (by decide) ?_
            have eo : opA (lxT f z x) = -8 := if_pos t1
            have ee : gL f z opA P (m + 1) x ce vl = pbd (P (lxN f z x)) (fun y c' v' => gL f z opA P m y (ce ++ c' ++ [opA (lxT f z x)]) (fun e => jn (opA (lxT f z x)) (vl e) (v' e))) := if_neg (by rw [eo]; decide)
            rw [ee, r3] at k
            have hv2 : 1 = jn (opA (lxT f z x)) (vl e) (v3 e) := by
              rw [eo, ← hv, ← e3, jn8]
              first | exact (if_pos (by omega)).symm | exact (if_neg (by omega)).symm
            have hg := X2.2.2 (by omega)
            exact ih y3 _ (fun e => jn (opA (lxT f z x)) (vl e) (v3 e)) _ _ _ Q (by omega) J3 B3 hv2 (fun M9 w9 q9 => k M9 w9 ⟨(F3).tr q9.1, q9.2⟩)
    · refine wp_if_eq (tgt := 49) dX8_both4_20 (by decide) (fun _ => ?_) (fun h => absurd h (by decide))
      refine wp_iload_n dX8_both4_49 rfl rfl ?_
      refine wp_iret rfl dX8_both4_50 ?_
      have ee : gL f z opA P (m + 1) x ce vl = .inr (x, ce, vl) := if_pos (show opA (lxT f z x) = 0 from if_neg t1)
      rw [ee] at k
      exact k _ _ ⟨Fr.rf, hJ, hv⟩
set_option maxRecDepth 20000 in
set_option maxHeartbeats 4000000 in
theorem cm_both4 {l : Launch} {g : Gw} {n : Nat} (hn : 90 ≤ n) {t : Nat} {f : Nat → Int} {z : Int} {e : Int → Int} {B : Nat} (hB8 : 12 ≤ B) (hB : BT f z) {o : Int} {P : Nat → PR} (hs : CMm l g n t f z e m_X8_not4 [(9, 0), (9, 0), (9, 0)] B o P) (hq : ∀ x : Nat, (x : Int) ≤ z → PQ z x (P x)) : CMm l g n t f z e m_X8_both4 [(9, 0), (9, 0)] (B + 1) o (gBn f z opA 160 P) := by
  intro d M0 Q x hd hJ hx k
  have hz1 := hJ.1.2.2.2.2.2.1
  refine wp_aload_n dX8_both4_0 rfl rfl ?_
  refine wp_callV0 (d' := d - 1) cv_RX8_264 69 rfl [] [] rfl rfl (Or.inl ⟨_, _, rfl, by decide, rfl, by omega, by omega⟩) (by omega) (Nat.le_of_ble_eq_true rfl) dX8_both4_1 rfl (Nat.le_of_ble_eq_true rfl) (by omega) (loc1 := [(2, 69), (9, 0), (9, 0), (9, 0)]) rfl ?_
  refine hs _ _ _ _ (by omega) hJ hx (fun M1 w1 q1 => ?_)
  obtain ⟨f1, q1⟩ := q1
  have F1 := ((Fr.rf : Fr VMr M0 M0)).tr f1
  have b1 := hq _ hx
  generalize r1 : P x = u1 at q1 b1
  rcases u1 with p1 | ⟨y1, c1, v1⟩
  · have D1 : DJm M1 t f z p1 o e := q1
    refine wp_istore_n (loc' := [(2, 69), (0, w1), (9, 0)]) dX8_both4_4 rfl (Nat.le_of_ble_eq_true rfl) rfl ?_
    have ee : gBn f z opA 160 P x = pbd (P x) (fun y c v => gL f z opA P 160 y c v) := rfl
    rw [ee, r1] at k
    exact lqd_both4 hn (by omega) (D1) (fun M9 w9 f9 d9 => k M9 w9 ⟨(F1).tr f9, d9⟩)
  · obtain ⟨J1, e1⟩ : RJm M1 t f z y1 o e ∧ w1 = v1 e := q1
    obtain ⟨b1, B1, _⟩ : x + c1.length ≤ y1 ∧ (y1 : Int) ≤ z ∧ _ := b1
    refine wp_istore_n (loc' := [(2, 69), (0, w1), (9, 0)]) dX8_both4_4 rfl (Nat.le_of_ble_eq_true rfl) rfl ?_
    have ee : gBn f z opA 160 P x = pbd (P x) (fun y c v => gL f z opA P 160 y c v) := rfl
    rw [ee, r1] at k
    exact lq_both4 hn hB8 hB hs hq hd 160 y1 c1 v1 w1 _ _ Q (by omega) J1 B1 e1 (fun M9 w9 q9 => k M9 w9 ⟨(F1).tr q9.1, q9.2⟩)
set_option maxRecDepth 20000 in
set_option maxHeartbeats 4000000 in
theorem lq_either4 {l : Launch} {g : Gw} {n : Nat} (hn : 90 ≤ n) {t : Nat} {f : Nat → Int} {z : Int} {e : Int → Int} {B : Nat} (hB8 : 12 ≤ B) (hB : BT f z) {o : Int} {P : Nat → PR} (hs : CMm l g n t f z e m_X8_both4 [(9, 0), (9, 0)] B o P) (hq : ∀ x : Nat, (x : Int) ≤ z → PQ z x (P x)) {d : Nat} (hd : B + 1 ≤ d) : ∀ (m x : Nat) (ce : List Int) (vl : Vl) (v : Int) (u2 : Wd) (M0 : Mm) (Q : Option Wd → Mm → Prop), z ≤ (x : Int) + m → RJm M0 t f z x o e → (x : Int) ≤ z → v = vl e → (∀ M' w, PoM M0 t f z o e (gL f z opO P m x ce vl) M' w → Q (some (0, w)) M') → Wp l g d 0 0 n m_X8_either4 5 [] [(2, 69), (0, v), u2] M0 Q := by
  intro m
  induction m with
  | zero =>
    intro x ce vl v u2 M0 Q hm hJ hx hv k
    refine wp_aload_n dX8_either4_5 rfl rfl ?_
    refine wp_bipush dX8_either4_6 (by decide) (by decide) ?_
    refine wp_bipush dX8_either4_8 (by decide) (by decide) ?_
    refine wp_iconst dX8_either4_10 (by decide) ?_
    refine wp_iconst dX8_either4_11 (by decide) ?_
    refine wp_iconst dX8_either4_12 (by decide) ?_
    refine wp_iconst dX8_either4_13 (by decide) ?_
    refine wp_iconst dX8_either4_14 (by decide) ?_
    refine wp_iconst dX8_either4_15 (by decide) ?_
    refine wp_callV0 (d' := d - 1) cv_RX8_200 69 rfl [(0, 111), (0, 114), (0, 0), (0, 0), (0, 0), (0, 0), (0, 0), (0, 0)] [] rfl rfl (Or.inl ⟨_, _, rfl, by decide, rfl, by omega, by omega⟩) (by omega) (Nat.le_of_ble_eq_true rfl) dX8_either4_16 rfl (Nat.le_of_ble_eq_true rfl) (by omega) (loc1 := [(2, 69), (0, 111), (0, 114), (0, 0), (0, 0), (0, 0), (0, 0), (0, 0), (0, 0)]) rfl ?_
    refine sp_isWm_3 hn (by omega) hJ hx (fun t1 => absurd t1 (by rw [lxT_end (by omega)]; decide)) (fun t1 => ?_)
    refine wp_if_eq (tgt := 48) dX8_either4_19 (by decide) (fun _ => ?_) (fun h => absurd h (by decide))
    refine wp_iload_n dX8_either4_48 rfl rfl ?_
    refine wp_iret rfl dX8_either4_49 ?_
    exact k _ _ ⟨Fr.rf, hJ, hv⟩
  | succ m ih =>
    intro x ce vl v u2 M0 Q hm hJ hx hv k
    refine wp_aload_n dX8_either4_5 rfl rfl ?_
    refine wp_bipush dX8_either4_6 (by decide) (by decide) ?_
    refine wp_bipush dX8_either4_8 (by decide) (by decide) ?_
    refine wp_iconst dX8_either4_10 (by decide) ?_
    refine wp_iconst dX8_either4_11 (by decide) ?_
    refine wp_iconst dX8_either4_12 (by decide) ?_
    refine wp_iconst dX8_either4_13 (by decide) ?_
    refine wp_iconst dX8_either4_14 (by decide) ?_
    refine wp_iconst dX8_either4_15 (by decide) ?_
    refine wp_callV0 (d' := d - 1) cv_RX8_200 69 rfl [(0, 111), (0, 114), (0, 0), (0, 0), (0, 0), (0, 0), (0, 0), (0, 0)] [] rfl rfl (Or.inl ⟨_, _, rfl, by decide, rfl, by omega, by omega⟩) (by omega) (Nat.le_of_ble_eq_true rfl) dX8_either4_16 rfl (Nat.le_of_ble_eq_true rfl) (by omega) (loc1 := [(2, 69), (0, 111), (0, 114), (0, 0), (0, 0), (0, 0), (0, 0), (0, 0), (0, 0)]) rfl ?_
    refine sp_isWm_3 hn (by omega) hJ hx (fun t1 => ?_) (fun t1 => ?_)
    · refine wp_if_eq (tgt := 48) dX8_either4_19 (by decide) (fun h => absurd h (by decide)) (fun _ => ?_)
      refine wp_aload_n dX8_either4_22 rfl rfl ?_
      refine wp_callV0 (d' := d - 1) cv_RX8_197 69 rfl [] [] rfl rfl (Or.inl ⟨_, _, rfl, by decide, rfl, by omega, by omega⟩) (by omega) (Nat.le_of_ble_eq_true rfl) dX8_either4_23 rfl (Nat.le_of_ble_eq_true rfl) (by omega) (loc1 := [(2, 69), (9, 0), (9, 0)]) rfl ?_
      refine sp_next hn (by omega) hB (hJ).1 ((hJ).2.1.2.1 ((hJ).2.1.2.2.ne4 (by omega))) (lxN_le hx).1 (fun M2 f2 l2 => ?_)
      have J2 := (hJ).step f2 l2
      have F2 := ((Fr.rf : Fr VMr M0 M0)).tr (f2.mono VM1.r)
      have X2 := lxN_le (f := f) hx
      have Y2 := lxA_le (f := f) hx
      refine wp_aload_n dX8_either4_26 rfl rfl ?_
      refine wp_callV0 (d' := d - 1) cv_RX8_267 69 rfl [] [] rfl rfl (Or.inl ⟨_, _, rfl, by decide, rfl, by omega, by omega⟩) (by omega) (Nat.le_of_ble_eq_true rfl) dX8_either4_27 rfl (Nat.le_of_ble_eq_true rfl) (by omega) (loc1 := [(2, 69), (9, 0), (9, 0)]) rfl ?_
      refine hs _ _ _ _ (by omega) J2 X2.1 (fun M3 w3 q3 => ?_)
      obtain ⟨f3, q3⟩ := q3
      have F3 := (F2).tr f3
      have b3 := hq _ X2.1
      generalize r3 : P (lxN f z x) = u3 at q3 b3
      rcases u3 with p3 | ⟨y3, c3, v3⟩
      · have D3 : DJm M3 t f z p3 o e := q3
        refine wp_istore_n (loc' := [(2, 69), (0, v), (0, w3)]) dX8_either4_30 rfl (Nat.le_of_ble_eq_true rfl) rfl ?_
        refine wp_iload_n dX8_either4_31 rfl rfl ?_
        refine wp_if_ne (tgt := 39) dX8_either4_32 (by decide) (fun h32 => ?_) (fun h32 => ?_)
        · refine wp_iconst dX8_either4_39 (by decide) ?_
          refine wp_goto (tgt := 44) dX8_either4_40 (by decide) ?_
          refine wp_istore_n (loc' := [(2, 69), (0, 1), (0, w3)]) dX8_either4_44 rfl (Nat.le_of_ble_eq_true rfl) rfl ?_
          refine wp_goto (tgt := 5) dX8_either4_45 (by decide) ?_
          have eo : opO (lxT f z x) = -7 := if_pos t1
          have ee : gL f z opO P (m + 1) x ce vl = pbd (P (lxN f z x)) (fun y c' v' => gL f z opO P m y (ce ++ c' ++ [opO (lxT f z x)]) (fun e => jn (opO (lxT f z x)) (vl e) (v' e))) := if_neg (by rw [eo]; decide)
          rw [ee, r3] at k
          exact lqd_either4 hn (by omega) (D3) (fun M9 w9 f9 d9 => k M9 w9 ⟨(F3).tr f9, d9⟩)
        · refine wp_iload_n dX8_either4_35 rfl rfl ?_
          refine wp_if_eq (tgt := 43) dX8_either4_36 (by decide) (fun h36 => ?_) (fun h36 => ?_)
          · refine wp_iconst dX8_either4_43 (by decide) ?_
            refine wp_istore_n (loc' := [(2, 69), (0, 0), (0, w3)]) dX8_either4_44 rfl (Nat.le_of_ble_eq_true rfl) rfl ?_
            refine wp_goto (tgt := 5) dX8_either4_45 (by decide) ?_
            have eo : opO (lxT f z x) = -7 := if_pos t1
            have ee : gL f z opO P (m + 1) x ce vl = pbd (P (lxN f z x)) (fun y c' v' => gL f z opO P m y (ce ++ c' ++ [opO (lxT f z x)]) (fun e => jn (opO (lxT f z x)) (vl e) (v' e))) := if_neg (by rw [eo]; decide)
            rw [ee, r3] at k
            exact lqd_either4 hn (by omega) (D3) (fun M9 w9 f9 d9 => k M9 w9 ⟨(F3).tr f9, d9⟩)
          · refine wp_iconst dX8_either4_39 (by decide) ?_
            refine wp_goto (tgt := 44) dX8_either4_40 (by decide) ?_
            refine wp_istore_n (loc' := [(2, 69), (0, 1), (0, w3)]) dX8_either4_44 rfl (Nat.le_of_ble_eq_true rfl) rfl ?_
            refine wp_goto (tgt := 5) dX8_either4_45 (by decide) ?_
            have eo : opO (lxT f z x) = -7 := if_pos t1
            have ee : gL f z opO P (m + 1) x ce vl = pbd (P (lxN f z x)) (fun y c' v' => gL f z opO P m y (ce ++ c' ++ [opO (lxT f z x)]) (fun e => jn (opO (lxT f z x)) (vl e) (v' e))) := if_neg (by rw [eo]; decide)
            rw [ee, r3] at k
            exact lqd_either4 hn (by omega) (D3) (fun M9 w9 f9 d9 => k M9 w9 ⟨(F3).tr f9, d9⟩)
      · obtain ⟨J3, e3⟩ : RJm M3 t f z y3 o e ∧ w3 = v3 e := q3
        obtain ⟨b3, B3, _⟩ : (lxN f z x) + c3.length ≤ y3 ∧ (y3 : Int) ≤ z ∧ _ := b3
        refine wp_istore_n (loc' := [(2, 69), (0, v), (0, w3)]) dX8_either4_30 rfl (Nat.le_of_ble_eq_true rfl) rfl ?_
        refine wp_iload_n dX8_either4_31 rfl rfl ?_
        refine wp_if_ne (tgt := 39) dX8_either4_32 (by decide) (fun h32 => ?_) (fun h32 => ?_)
        · refine wp_iconst dX8_either4_39 (by decide) ?_
          refine wp_goto (tgt := 44) dX8_either4_40 (by decide) ?_
          refine wp_istore_n (loc' := [(2, 69), (0, 1), (0, w3)]) dX8_either4_44 rfl (Nat.le_of_ble_eq_true rfl) rfl ?_
          refine wp_goto (tgt := 5) dX8_either4_45 (by decide) ?_
          have eo : opO (lxT f z x) = -7 := if_pos t1
          have ee : gL f z opO P (m + 1) x ce vl = pbd (P (lxN f z x)) (fun y c' v' => gL f z opO P m y (ce ++ c' ++ [opO (lxT f z x)]) (fun e => jn (opO (lxT f z x)) (vl e) (v' e))) := if_neg (by rw [eo]; decide)
          rw [ee, r3] at k
          have hv2 : 1 = jn (opO (lxT f z x)) (vl e) (v3 e) := by
            rw [eo, ← hv, ← e3, jn7]
            first | exact (if_pos (by omega)).symm | exact (if_neg (by omega)).symm
          have hg := X2.2.2 (by omega)
          exact ih y3 _ (fun e => jn (opO (lxT f z x)) (vl e) (v3 e)) _ _ _ Q (by omega) J3 B3 hv2 (fun M9 w9 q9 => k M9 w9 ⟨(F3).tr q9.1, q9.2⟩)
        · refine wp_iload_n dX8_either4_35 rfl rfl ?_
          refine wp_if_eq (tgt := 43) dX8_either4_36 (by decide) (fun h36 => ?_) (fun h36 => ?_)
          · refine wp_iconst dX8_either4_43 (by decide) ?_
            refine wp_istore_n (loc' := [(2, 69), (0, 0), (0, w3)]) dX8_either4_44 rfl (Nat.le_of_ble_eq_true rfl) rfl ?_
            refine wp_goto (tgt := 5) dX8_either4_45 (by decide) ?_
            have eo : opO (lxT f z x) = -7 := if_pos t1
            have ee : gL f z opO P (m + 1) x ce vl = pbd (P (lxN f z x)) (fun y c' v' => gL f z opO P m y (ce ++ c' ++ [opO (lxT f z x)]) (fun e => jn (opO (lxT f z x)) (vl e) (v' e))) := if_neg (by rw [eo]; decide)
            rw [ee, r3] at k
            have hv2 : 0 = jn (opO (lxT f z x)) (vl e) (v3 e) := by
              rw [eo, ← hv, ← e3, jn7]
              first | exact (if_pos (by omega)).symm | exact (if_neg (by omega)).symm
            have hg := X2.2.2 (by omega)
            exact ih y3 _ (fun e => jn (opO (lxT f z x)) (vl e) (v3 e)) _ _ _ Q (by omega) J3 B3 hv2 (fun M9 w9 q9 => k M9 w9 ⟨(F3).tr q9.1, q9.2⟩)
          · refine wp_iconst dX8_either4_39 (by decide) ?_
            refine wp_goto (tgt := 44) dX8_either4_40 (by decide) ?_
            refine wp_istore_n (loc' := [(2, 69), (0, 1), (0, w3)]) dX8_either4_44 rfl (Nat.le_of_ble_eq_true rfl) rfl ?_
            refine wp_goto (tgt := 5) dX8_either4_45 (by decide) ?_
            have eo : opO (lxT f z x) = -7 := if_pos t1
            have ee : gL f z opO P (m + 1) x ce vl = pbd (P (lxN f z x)) (fun y c' v' => gL f z opO P m y (ce ++ c' ++ [opO (lxT f z x)]) (fun e => jn (opO (lxT f z x)) (vl e) (v' e))) := if_neg (by rw [eo]; decide)
            rw [ee, r3] at k
            have hv2 : 1 = jn (opO (lxT f z x)) (vl e) (v3 e) := by
              rw [eo, ← hv, ← e3, jn7]
              first | exact (if_pos (by omega)).symm | exact (if_neg (by omega)).symm
            have hg := X2.2.2 (by omega)
            exact ih y3 _ (fun e => jn (opO (lxT f z x)) (vl e) (v3 e)) _ _ _ Q (by omega) J3 B3 hv2 (fun M9 w9 q9 => k M9 w9 ⟨(F3).tr q9.1, q9.2⟩)
    · refine wp_if_eq (tgt := 48) dX8_either4_19 (by decide) (fun _ => ?_) (fun h => absurd h (by decide))
      refine wp_iload_n dX8_either4_48 rfl rfl ?_
      refine wp_iret rfl dX8_either4_49 ?_
      have ee : gL f z opO P (m + 1) x ce vl = .inr (x, ce, vl) := if_pos (show opO (lxT f z x) = 0 from if_neg t1)
      rw [ee] at k
      exact k _ _ ⟨Fr.rf, hJ, hv⟩
set_option maxRecDepth 20000 in
set_option maxHeartbeats 4000000 in
theorem cm_either4 {l : Launch} {g : Gw} {n : Nat} (hn : 90 ≤ n) {t : Nat} {f : Nat → Int} {z : Int} {e : Int → Int} {B : Nat} (hB8 : 12 ≤ B) (hB : BT f z) {o : Int} {P : Nat → PR} (hs : CMm l g n t f z e m_X8_both4 [(9, 0), (9, 0)] B o P) (hq : ∀ x : Nat, (x : Int) ≤ z → PQ z x (P x)) : CMm l g n t f z e m_X8_either4 [(9, 0), (9, 0)] (B + 1) o (gBn f z opO 160 P) := by
  intro d M0 Q x hd hJ hx k
  have hz1 := hJ.1.2.2.2.2.2.1
  refine wp_aload_n dX8_either4_0 rfl rfl ?_
  refine wp_callV0 (d' := d - 1) cv_RX8_267 69 rfl [] [] rfl rfl (Or.inl ⟨_, _, rfl, by decide, rfl, by omega, by omega⟩) (by omega) (Nat.le_of_ble_eq_true rfl) dX8_either4_1 rfl (Nat.le_of_ble_eq_true rfl) (by omega) (loc1 := [(2, 69), (9, 0), (9, 0)]) rfl ?_
  refine hs _ _ _ _ (by omega) hJ hx (fun M1 w1 q1 => ?_)
  obtain ⟨f1, q1⟩ := q1
  have F1 := ((Fr.rf : Fr VMr M0 M0)).tr f1
  have b1 := hq _ hx
  generalize r1 : P x = u1 at q1 b1
  rcases u1 with p1 | ⟨y1, c1, v1⟩
  · have D1 : DJm M1 t f z p1 o e := q1
    refine wp_istore_n (loc' := [(2, 69), (0, w1), (9, 0)]) dX8_either4_4 rfl (Nat.le_of_ble_eq_true rfl) rfl ?_
    have ee : gBn f z opO 160 P x = pbd (P x) (fun y c v => gL f z opO P 160 y c v) := rfl
    rw [ee, r1] at k
    exact lqd_either4 hn (by omega) (D1) (fun M9 w9 f9 d9 => k M9 w9 ⟨(F1).tr f9, d9⟩)
  · obtain ⟨J1, e1⟩ : RJm M1 t f z y1 o e ∧ w1 = v1 e := q1
    obtain ⟨b1, B1, _⟩ : x + c1.length ≤ y1 ∧ (y1 : Int) ≤ z ∧ _ := b1
    refine wp_istore_n (loc' := [(2, 69), (0, w1), (9, 0)]) dX8_either4_4 rfl (Nat.le_of_ble_eq_true rfl) rfl ?_
    have ee : gBn f z opO 160 P x = pbd (P x) (fun y c v => gL f z opO P 160 y c v) := rfl
    rw [ee, r1] at k
    exact lq_either4 hn hB8 hB hs hq hd 160 y1 c1 v1 w1 _ _ Q (by omega) J1 B1 e1 (fun M9 w9 q9 => k M9 w9 ⟨(F1).tr q9.1, q9.2⟩)
set_option maxRecDepth 20000 in
set_option maxHeartbeats 4000000 in
theorem cm_atom4 {l : Launch} {g : Gw} {n : Nat} (hn : 90 ≤ n) {t : Nat} {f : Nat → Int} {z : Int} {e : Int → Int} {B : Nat} (hB8 : 12 ≤ B) (hB : BT f z) {o : Int} (ho : 0 ≤ o ∧ o < 5) {q : P3} (hq : OK3 z q) (hs1 : CMm l g n t f z e m_X8_atom5 [(9, 0)] B (o + 1) q.1) (hs3 : CMm l g n t f z e m_X8_either5 [(9, 0), (9, 0)] B (o + 1) q.2.2) : CMm l g n t f z e m_X8_atom4 [(9, 0)] (B + 1) o (oneP f z (some q)) := by
  intro d M0 Q x hd hJ hx k
  have hz1 := hJ.1.2.2.2.2.2.1
  refine wp_iconst dX8_atom4_0 (by decide) ?_
  refine wp_istore_n (loc' := [(2, 69), (0, 0)]) dX8_atom4_1 rfl (Nat.le_of_ble_eq_true rfl) rfl ?_
  refine wp_aload_n dX8_atom4_2 rfl rfl ?_
  refine wp_bipush dX8_atom4_3 (by decide) (by decide) ?_
  refine wp_callV0 (d' := d - 1) cv_RX8_222 69 rfl [(0, 45)] [] rfl rfl (Or.inl ⟨_, _, rfl, by decide, rfl, by omega, by omega⟩) (by omega) (Nat.le_of_ble_eq_true rfl) dX8_atom4_5 rfl (Nat.le_of_ble_eq_true rfl) (by omega) (loc1 := [(2, 69), (0, 45)]) rfl ?_
  refine sp_isSg hn hJ 45 (by decide) (fun t1 => ?_) (fun t1 => ?_)
  · have g1 := ((hJ).2.1.2.2.sgn (s := 45) (by decide)).mpr t1
    refine wp_if_eq (tgt := 37) dX8_atom4_8 (by decide) (fun h => absurd h (by decide)) (fun _ => ?_)
    refine wp_aload_n dX8_atom4_11 rfl rfl ?_
    refine wp_callV0 (d' := d - 1) cv_RX8_225 69 rfl [] [] rfl rfl (Or.inl ⟨_, _, rfl, by decide, rfl, by omega, by omega⟩) (by omega) (Nat.le_of_ble_eq_true rfl) dX8_atom4_12 rfl (Nat.le_of_ble_eq_true rfl) (by omega) (loc1 := [(2, 69)]) rfl ?_
    refine sp_opensm hn (by omega) hB hJ hx ho (by omega) (fun M2 J2 f2 => ?_)
    have F2 := ((Fr.rf : Fr VMr M0 M0)).tr f2
    have X2 := lxN_le (f := f) hx
    have Y2 := lxA_le (f := f) hx
    refine wp_if_eq (tgt := 161) dX8_atom4_15 (by decide) (fun h => absurd h (by decide)) (fun _ => ?_)
    refine wp_aload_n dX8_atom4_18 rfl rfl ?_
    refine wp_callV0 (d' := d - 1) cv_RX8_233 69 rfl [] [] rfl rfl (Or.inl ⟨_, _, rfl, by decide, rfl, by omega, by omega⟩) (by omega) (Nat.le_of_ble_eq_true rfl) dX8_atom4_19 rfl (Nat.le_of_ble_eq_true rfl) (by omega) (loc1 := [(2, 69), (9, 0)]) rfl ?_
    refine hs1 _ _ _ _ (by omega) J2 X2.1 (fun M3 w3 q3 => ?_)
    obtain ⟨f3, q3⟩ := q3
    have F3 := (F2).tr f3
    have b3 := hq.1 _ X2.1
    generalize r3 : q.1 (lxN f z x) = u3 at q3 b3
    rcases u3 with p3 | ⟨y3, c3, v3⟩
    · have D3 : DJm M3 t f z p3 (o + 1) e := q3
      refine wp_ineg dX8_atom4_22 ?_
      refine wp_istore_n (loc' := [(2, 69), (0, (wrap (-w3)))]) dX8_atom4_23 rfl (Nat.le_of_ble_eq_true rfl) rfl ?_
      refine wp_aload_n dX8_atom4_24 rfl rfl ?_
      refine wp_dup dX8_atom4_25 (Or.inr rfl) ?_
      refine wp_get 69 rfl fl_RX8_191 rfl ⟨by omega, by omega⟩ dX8_atom4_26 rfl (v := (o + 1)) (D3.2.1) ?_
      refine wp_iconst dX8_atom4_29 (by decide) ?_
      refine wp_isub dX8_atom4_30 (by omega) ?_
      refine wp_puti 69 rfl fl_RX8_191 rfl ⟨by omega, by omega⟩ dX8_atom4_31 rfl rfl ?_
      refine wp_goto (tgt := 161) dX8_atom4_34 (by decide) ?_
      refine wp_iload_n dX8_atom4_161 rfl rfl ?_
      refine wp_iret rfl dX8_atom4_162 ?_
      have J4 := (D3).opn (show ((o + 1) - 1) = o by omega)
      have B4 : Fr VMr M0 (mu M3 69 25 ((o + 1) - 1)) := (F3).tr fm25
      generalize (mu M3 69 25 ((o + 1) - 1)) = N4 at J4 B4 ⊢
      have ee : oneP f z (some q) x = pbd (q.1 (lxN f z x)) (fun y c v => .inr (y, c ++ [-15], fun e => wrap (-(v e)))) := (if_neg (by omega)).trans ((if_neg (by omega)).trans (if_pos t1))
      rw [ee, r3] at k
      exact k _ _ ⟨B4, J4⟩
    · obtain ⟨J3, e3⟩ : RJm M3 t f z y3 (o + 1) e ∧ w3 = v3 e := q3
      obtain ⟨b3, B3, _⟩ : (lxN f z x) + c3.length ≤ y3 ∧ (y3 : Int) ≤ z ∧ _ := b3
      refine wp_ineg dX8_atom4_22 ?_
      refine wp_istore_n (loc' := [(2, 69), (0, (wrap (-w3)))]) dX8_atom4_23 rfl (Nat.le_of_ble_eq_true rfl) rfl ?_
      refine wp_aload_n dX8_atom4_24 rfl rfl ?_
      refine wp_dup dX8_atom4_25 (Or.inr rfl) ?_
      refine wp_get 69 rfl fl_RX8_191 rfl ⟨by omega, by omega⟩ dX8_atom4_26 rfl (v := (o + 1)) (J3.2.2.1) ?_
      refine wp_iconst dX8_atom4_29 (by decide) ?_
      refine wp_isub dX8_atom4_30 (by omega) ?_
      refine wp_puti 69 rfl fl_RX8_191 rfl ⟨by omega, by omega⟩ dX8_atom4_31 rfl rfl ?_
      refine wp_goto (tgt := 161) dX8_atom4_34 (by decide) ?_
      refine wp_iload_n dX8_atom4_161 rfl rfl ?_
      refine wp_iret rfl dX8_atom4_162 ?_
      have J5 := (J3).opn (show ((o + 1) - 1) = o by omega)
      have B5 : Fr VMr M0 (mu M3 69 25 ((o + 1) - 1)) := (F3).tr fm25
      generalize (mu M3 69 25 ((o + 1) - 1)) = N5 at J5 B5 ⊢
      have ee : oneP f z (some q) x = pbd (q.1 (lxN f z x)) (fun y c v => .inr (y, c ++ [-15], fun e => wrap (-(v e)))) := (if_neg (by omega)).trans ((if_neg (by omega)).trans (if_pos t1))
      rw [ee, r3] at k
      exact k _ _ ⟨B5, J5, by rw [e3]⟩
  · refine wp_if_eq (tgt := 37) dX8_atom4_8 (by decide) (fun _ => ?_) (fun h => absurd h (by decide))
    refine wp_aload_n dX8_atom4_37 rfl rfl ?_
    refine wp_bipush dX8_atom4_38 (by decide) (by decide) ?_
    refine wp_callV0 (d' := d - 1) cv_RX8_222 69 rfl [(0, 40)] [] rfl rfl (Or.inl ⟨_, _, rfl, by decide, rfl, by omega, by omega⟩) (by omega) (Nat.le_of_ble_eq_true rfl) dX8_atom4_40 rfl (Nat.le_of_ble_eq_true rfl) (by omega) (loc1 := [(2, 69), (0, 40)]) rfl ?_
    refine sp_isSg hn hJ 40 (by decide) (fun t6 => ?_) (fun t6 => ?_)
    · have g6 := ((hJ).2.1.2.2.sgn (s := 40) (by decide)).mpr t6
      refine wp_if_eq (tgt := 95) dX8_atom4_43 (by decide) (fun h => absurd h (by decide)) (fun _ => ?_)
      refine wp_aload_n dX8_atom4_46 rfl rfl ?_
      refine wp_callV0 (d' := d - 1) cv_RX8_225 69 rfl [] [] rfl rfl (Or.inl ⟨_, _, rfl, by decide, rfl, by omega, by omega⟩) (by omega) (Nat.le_of_ble_eq_true rfl) dX8_atom4_47 rfl (Nat.le_of_ble_eq_true rfl) (by omega) (loc1 := [(2, 69)]) rfl ?_
      refine sp_opensm hn (by omega) hB hJ hx ho (by omega) (fun M7 J7 f7 => ?_)
      have F7 := ((Fr.rf : Fr VMr M0 M0)).tr f7
      have X7 := lxN_le (f := f) hx
      have Y7 := lxA_le (f := f) hx
      refine wp_if_eq (tgt := 161) dX8_atom4_50 (by decide) (fun h => absurd h (by decide)) (fun _ => ?_)
      refine wp_aload_n dX8_atom4_53 rfl rfl ?_
      refine wp_callV0 (d' := d - 1) cv_RX8_252 69 rfl [] [] rfl rfl (Or.inl ⟨_, _, rfl, by decide, rfl, by omega, by omega⟩) (by omega) (Nat.le_of_ble_eq_true rfl) dX8_atom4_54 rfl (Nat.le_of_ble_eq_true rfl) (by omega) (loc1 := [(2, 69), (9, 0), (9, 0)]) rfl ?_
      refine hs3 _ _ _ _ (by omega) J7 X7.1 (fun M8 w8 q8 => ?_)
      obtain ⟨f8, q8⟩ := q8
      have F8 := (F7).tr f8
      have b8 := hq.2.2 _ X7.1
      generalize r8 : q.2.2 (lxN f z x) = u8 at q8 b8
      rcases u8 with p8 | ⟨y8, c8, v8⟩
      · have D8 : DJm M8 t f z p8 (o + 1) e := q8
        refine wp_istore_n (loc' := [(2, 69), (0, w8)]) dX8_atom4_57 rfl (Nat.le_of_ble_eq_true rfl) rfl ?_
        refine wp_aload_n dX8_atom4_58 rfl rfl ?_
        refine wp_bipush dX8_atom4_59 (by decide) (by decide) ?_
        refine wp_callV0 (d' := d - 1) cv_RX8_222 69 rfl [(0, 41)] [] rfl rfl (Or.inl ⟨_, _, rfl, by decide, rfl, by omega, by omega⟩) (by omega) (Nat.le_of_ble_eq_true rfl) dX8_atom4_61 rfl (Nat.le_of_ble_eq_true rfl) (by omega) (loc1 := [(2, 69), (0, 41)]) rfl ?_
        refine sp_isSd hn D8 ?_
        refine wp_if_ne (tgt := 71) dX8_atom4_64 (by decide) (fun h => absurd h (by decide)) (fun _ => ?_)
        refine wp_aload_n dX8_atom4_67 rfl rfl ?_
        refine wp_callV0 (d' := d - 1) cv_RX8_194 69 rfl [] [] rfl rfl (Or.inl ⟨_, _, rfl, by decide, rfl, by omega, by omega⟩) (by omega) (Nat.le_of_ble_eq_true rfl) dX8_atom4_68 rfl (Nat.le_of_ble_eq_true rfl) (by omega) (loc1 := [(2, 69)]) rfl ?_
        refine sp_failmD hn D8 ?_
        refine wp_aload_n dX8_atom4_71 rfl rfl ?_
        refine wp_dup dX8_atom4_72 (Or.inr rfl) ?_
        refine wp_get 69 rfl fl_RX8_191 rfl ⟨by omega, by omega⟩ dX8_atom4_73 rfl (v := (o + 1)) (D8.2.1) ?_
        refine wp_iconst dX8_atom4_76 (by decide) ?_
        refine wp_isub dX8_atom4_77 (by omega) ?_
        refine wp_puti 69 rfl fl_RX8_191 rfl ⟨by omega, by omega⟩ dX8_atom4_78 rfl rfl ?_
        refine wp_aload_n dX8_atom4_81 rfl rfl ?_
        refine wp_get 69 rfl fl_RX8_181 rfl ⟨by omega, by omega⟩ dX8_atom4_82 rfl (v := 1) (D8.2.2.1) ?_
        refine wp_if_ne (tgt := 161) dX8_atom4_85 (by decide) (fun _ => ?_) (fun h => absurd h (by decide))
        refine wp_iload_n dX8_atom4_161 rfl rfl ?_
        refine wp_iret rfl dX8_atom4_162 ?_
        have J11 := (D8).opn (show ((o + 1) - 1) = o by omega)
        have B11 : Fr VMr M0 (mu M8 69 25 ((o + 1) - 1)) := (F8).tr fm25
        generalize (mu M8 69 25 ((o + 1) - 1)) = N11 at J11 B11 ⊢
        have ee : oneP f z (some q) x = pbd (q.2.2 (lxN f z x)) (fun y c v => if lxT f z y = 41 then .inr (lxN f z y, c, v) else .inl (lxA f z y)) := (if_neg (by omega)).trans ((if_neg (by omega)).trans ((if_neg t1).trans (if_pos t6)))
        rw [ee, r8] at k
        exact k _ _ ⟨B11, J11⟩
      · obtain ⟨J8, e8⟩ : RJm M8 t f z y8 (o + 1) e ∧ w8 = v8 e := q8
        obtain ⟨b8, B8, _⟩ : (lxN f z x) + c8.length ≤ y8 ∧ (y8 : Int) ≤ z ∧ _ := b8
        refine wp_istore_n (loc' := [(2, 69), (0, w8)]) dX8_atom4_57 rfl (Nat.le_of_ble_eq_true rfl) rfl ?_
        refine wp_aload_n dX8_atom4_58 rfl rfl ?_
        refine wp_bipush dX8_atom4_59 (by decide) (by decide) ?_
        refine wp_callV0 (d' := d - 1) cv_RX8_222 69 rfl [(0, 41)] [] rfl rfl (Or.inl ⟨_, _, rfl, by decide, rfl, by omega, by omega⟩) (by omega) (Nat.le_of_ble_eq_true rfl) dX8_atom4_61 rfl (Nat.le_of_ble_eq_true rfl) (by omega) (loc1 := [(2, 69), (0, 41)]) rfl ?_
        refine sp_isSg hn J8 41 (by decide) (fun t12 => ?_) (fun t12 => ?_)
        · have g12 := ((J8).2.1.2.2.sgn (s := 41) (by decide)).mpr t12
          refine wp_if_ne (tgt := 71) dX8_atom4_64 (by decide) (fun _ => ?_) (fun h => absurd h (by decide))
          refine wp_aload_n dX8_atom4_71 rfl rfl ?_
          refine wp_dup dX8_atom4_72 (Or.inr rfl) ?_
          refine wp_get 69 rfl fl_RX8_191 rfl ⟨by omega, by omega⟩ dX8_atom4_73 rfl (v := (o + 1)) (J8.2.2.1) ?_
          refine wp_iconst dX8_atom4_76 (by decide) ?_
          refine wp_isub dX8_atom4_77 (by omega) ?_
          refine wp_puti 69 rfl fl_RX8_191 rfl ⟨by omega, by omega⟩ dX8_atom4_78 rfl rfl ?_
          refine wp_aload_n dX8_atom4_81 rfl rfl ?_
          refine wp_get 69 rfl fl_RX8_181 rfl ⟨by omega, by omega⟩ dX8_atom4_82 rfl (v := 0) (J8.2.2.2.1) ?_
          refine wp_if_ne (tgt := 161) dX8_atom4_85 (by decide) (fun h => absurd h (by decide)) (fun _ => ?_)
          refine wp_aload_n dX8_atom4_88 rfl rfl ?_
          refine wp_callV0 (d' := d - 1) cv_RX8_197 69 rfl [] [] rfl rfl (Or.inl ⟨_, _, rfl, by decide, rfl, by omega, by omega⟩) (by omega) (Nat.le_of_ble_eq_true rfl) dX8_atom4_89 rfl (Nat.le_of_ble_eq_true rfl) (by omega) (loc1 := [(2, 69), (9, 0), (9, 0)]) rfl ?_
          have J13 := (J8).opn (show ((o + 1) - 1) = o by omega)
          have B13 : Fr VMr M0 (mu M8 69 25 ((o + 1) - 1)) := (F8).tr fm25
          generalize (mu M8 69 25 ((o + 1) - 1)) = N13 at J13 B13 ⊢
          refine sp_next hn (by omega) hB (J13).1 ((J13).2.1.2.1 ((J13).2.1.2.2.ne4 (by omega))) (lxN_le B8).1 (fun M14 f14 l14 => ?_)
          have J14 := (J13).step f14 l14
          have F14 := (B13).tr (f14.mono VM1.r)
          have X14 := lxN_le (f := f) B8
          have Y14 := lxA_le (f := f) B8
          refine wp_goto (tgt := 161) dX8_atom4_92 (by decide) ?_
          refine wp_iload_n dX8_atom4_161 rfl rfl ?_
          refine wp_iret rfl dX8_atom4_162 ?_
          have ee : oneP f z (some q) x = pbd (q.2.2 (lxN f z x)) (fun y c v => if lxT f z y = 41 then .inr (lxN f z y, c, v) else .inl (lxA f z y)) := (if_neg (by omega)).trans ((if_neg (by omega)).trans ((if_neg t1).trans (if_pos t6)))
          rw [ee, r8] at k
          replace k : ∀ M' w, PoM M0 t f z o e (if lxT f z y8 = 41 then .inr (lxN f z y8, c8, v8) else .inl (lxA f z y8)) M' w → Q (some (0, w)) M' := k
          rw [if_pos t12] at k
          exact k _ _ ⟨F14, J14, e8⟩
        · refine wp_if_ne (tgt := 71) dX8_atom4_64 (by decide) (fun h => absurd h (by decide)) (fun _ => ?_)
          refine wp_aload_n dX8_atom4_67 rfl rfl ?_
          refine wp_callV0 (d' := d - 1) cv_RX8_194 69 rfl [] [] rfl rfl (Or.inl ⟨_, _, rfl, by decide, rfl, by omega, by omega⟩) (by omega) (Nat.le_of_ble_eq_true rfl) dX8_atom4_68 rfl (Nat.le_of_ble_eq_true rfl) (by omega) (loc1 := [(2, 69)]) rfl ?_
          refine sp_failm hn J8 (fun M15 D15 f15 => ?_)
          have F15 := (F8).tr f15
          refine wp_aload_n dX8_atom4_71 rfl rfl ?_
          refine wp_dup dX8_atom4_72 (Or.inr rfl) ?_
          refine wp_get 69 rfl fl_RX8_191 rfl ⟨by omega, by omega⟩ dX8_atom4_73 rfl (v := (o + 1)) (D15.2.1) ?_
          refine wp_iconst dX8_atom4_76 (by decide) ?_
          refine wp_isub dX8_atom4_77 (by omega) ?_
          refine wp_puti 69 rfl fl_RX8_191 rfl ⟨by omega, by omega⟩ dX8_atom4_78 rfl rfl ?_
          refine wp_aload_n dX8_atom4_81 rfl rfl ?_
          refine wp_get 69 rfl fl_RX8_181 rfl ⟨by omega, by omega⟩ dX8_atom4_82 rfl (v := 1) (D15.2.2.1) ?_
          refine wp_if_ne (tgt := 161) dX8_atom4_85 (by decide) (fun _ => ?_) (fun h => absurd h (by decide))
          refine wp_iload_n dX8_atom4_161 rfl rfl ?_
          refine wp_iret rfl dX8_atom4_162 ?_
          have J16 := (D15).opn (show ((o + 1) - 1) = o by omega)
          have B16 : Fr VMr M0 (mu M15 69 25 ((o + 1) - 1)) := (F15).tr fm25
          generalize (mu M15 69 25 ((o + 1) - 1)) = N16 at J16 B16 ⊢
          have ee : oneP f z (some q) x = pbd (q.2.2 (lxN f z x)) (fun y c v => if lxT f z y = 41 then .inr (lxN f z y, c, v) else .inl (lxA f z y)) := (if_neg (by omega)).trans ((if_neg (by omega)).trans ((if_neg t1).trans (if_pos t6)))
          rw [ee, r8] at k
          replace k : ∀ M' w, PoM M0 t f z o e (if lxT f z y8 = 41 then .inr (lxN f z y8, c8, v8) else .inl (lxA f z y8)) M' w → Q (some (0, w)) M' := k
          rw [if_neg t12] at k
          exact k _ _ ⟨B16, J16⟩
    · refine wp_if_eq (tgt := 95) dX8_atom4_43 (by decide) (fun _ => ?_) (fun h => absurd h (by decide))
      refine wp_aload_n dX8_atom4_95 rfl rfl ?_
      refine wp_get 69 rfl fl_RX8_181 rfl ⟨by omega, by omega⟩ dX8_atom4_96 rfl (v := 0) (hJ.2.2.2.1) ?_
      refine wp_if_ne (tgt := 123) dX8_atom4_99 (by decide) (fun h => absurd h (by decide)) (fun _ => ?_)
      refine wp_aload_n dX8_atom4_102 rfl rfl ?_
      refine wp_get 69 rfl fl_RX8_164 rfl ⟨by omega, by omega⟩ dX8_atom4_103 rfl (v := (M0 69 22)) (rfl) ?_
      refine wp_iconst dX8_atom4_106 (by decide) ?_
      refine wp_icmp_ne (tgt := 123) dX8_atom4_107 (by decide) (fun h107 => ?_) (fun h107 => ?_)
      · refine wp_aload_n dX8_atom4_123 rfl rfl ?_
        refine wp_get 69 rfl fl_RX8_181 rfl ⟨by omega, by omega⟩ dX8_atom4_124 rfl (v := 0) (hJ.2.2.2.1) ?_
        refine wp_if_ne (tgt := 157) dX8_atom4_127 (by decide) (fun h => absurd h (by decide)) (fun _ => ?_)
        refine wp_aload_n dX8_atom4_130 rfl rfl ?_
        refine wp_get 69 rfl fl_RX8_164 rfl ⟨by omega, by omega⟩ dX8_atom4_131 rfl (v := (M0 69 22)) (rfl) ?_
        refine wp_iconst dX8_atom4_134 (by decide) ?_
        refine wp_icmp_ne (tgt := 157) dX8_atom4_135 (by decide) (fun h135 => ?_) (fun h135 => ?_)
        · refine wp_aload_n dX8_atom4_157 rfl rfl ?_
          refine wp_callV0 (d' := d - 1) cv_RX8_194 69 rfl [] [] rfl rfl (Or.inl ⟨_, _, rfl, by decide, rfl, by omega, by omega⟩) (by omega) (Nat.le_of_ble_eq_true rfl) dX8_atom4_158 rfl (Nat.le_of_ble_eq_true rfl) (by omega) (loc1 := [(2, 69)]) rfl ?_
          refine sp_failm hn hJ (fun M17 D17 f17 => ?_)
          have F17 := ((Fr.rf : Fr VMr M0 M0)).tr f17
          refine wp_iload_n dX8_atom4_161 rfl rfl ?_
          refine wp_iret rfl dX8_atom4_162 ?_
          have two := hJ.2.1.2.2.two
          have t2 : lxT f z x ≠ 2 := fun h => h107 (two.1.mpr h)
          have hw := hJ.2.1.2.2.word h135
          have ee : oneP f z (some q) x = .inl (lxA f z x) := (if_neg t2).trans ((if_neg (by omega)).trans ((if_neg t1).trans (if_neg t6)))
          rw [ee] at k
          exact k _ _ ⟨F17, D17⟩
        · refine wp_aload_n dX8_atom4_138 rfl rfl ?_
          refine wp_callV0 (d' := d - 1) cv_RX8_229 69 rfl [] [] rfl rfl (Or.inl ⟨_, _, rfl, by decide, rfl, by omega, by omega⟩) (by omega) (Nat.le_of_ble_eq_true rfl) dX8_atom4_139 rfl (Nat.le_of_ble_eq_true rfl) (by omega) (loc1 := [(2, 69)]) rfl ?_
          refine sp_name hn (by omega) hJ hx (fun hnm => ?_) (fun hnm M18 D18 f18 => ?_)
          · refine wp_istore_n (loc' := [(2, 69), (0, (e (-1 - (lxT f z x - 262))))]) dX8_atom4_142 rfl (Nat.le_of_ble_eq_true rfl) rfl ?_
            refine wp_aload_n dX8_atom4_143 rfl rfl ?_
            refine wp_get 69 rfl fl_RX8_181 rfl ⟨by omega, by omega⟩ dX8_atom4_144 rfl (v := 0) (hJ.2.2.2.1) ?_
            refine wp_if_ne (tgt := 161) dX8_atom4_147 (by decide) (fun h => absurd h (by decide)) (fun _ => ?_)
            refine wp_aload_n dX8_atom4_150 rfl rfl ?_
            refine wp_callV0 (d' := d - 1) cv_RX8_197 69 rfl [] [] rfl rfl (Or.inl ⟨_, _, rfl, by decide, rfl, by omega, by omega⟩) (by omega) (Nat.le_of_ble_eq_true rfl) dX8_atom4_151 rfl (Nat.le_of_ble_eq_true rfl) (by omega) (loc1 := [(2, 69), (9, 0), (9, 0)]) rfl ?_
            refine sp_next hn (by omega) hB (hJ).1 ((hJ).2.1.2.1 ((hJ).2.1.2.2.ne4 (by omega))) (lxN_le hx).1 (fun M19 f19 l19 => ?_)
            have J19 := (hJ).step f19 l19
            have F19 := ((Fr.rf : Fr VMr M0 M0)).tr (f19.mono VM1.r)
            have X19 := lxN_le (f := f) hx
            have Y19 := lxA_le (f := f) hx
            refine wp_goto (tgt := 161) dX8_atom4_154 (by decide) ?_
            refine wp_iload_n dX8_atom4_161 rfl rfl ?_
            refine wp_iret rfl dX8_atom4_162 ?_
            have two := hJ.2.1.2.2.two
            have t2 : lxT f z x ≠ 2 := fun h => h107 (two.1.mpr h)
            have ee : oneP f z (some q) x = .inr (lxN f z x, [-1 - (lxT f z x - 262)], fun e => e (-1 - (lxT f z x - 262))) := (if_neg t2).trans (if_pos hnm)
            rw [ee] at k
            exact k _ _ ⟨F19, J19, rfl⟩
          · have F18 := ((Fr.rf : Fr VMr M0 M0)).tr f18
            refine wp_istore_n (loc' := [(2, 69), (0, 0)]) dX8_atom4_142 rfl (Nat.le_of_ble_eq_true rfl) rfl ?_
            refine wp_aload_n dX8_atom4_143 rfl rfl ?_
            refine wp_get 69 rfl fl_RX8_181 rfl ⟨by omega, by omega⟩ dX8_atom4_144 rfl (v := 1) (D18.2.2.1) ?_
            refine wp_if_ne (tgt := 161) dX8_atom4_147 (by decide) (fun _ => ?_) (fun h => absurd h (by decide))
            refine wp_iload_n dX8_atom4_161 rfl rfl ?_
            refine wp_iret rfl dX8_atom4_162 ?_
            have two := hJ.2.1.2.2.two
            have t2 : lxT f z x ≠ 2 := fun h => h107 (two.1.mpr h)
            have ee : oneP f z (some q) x = .inl (lxA f z x) := (if_neg t2).trans ((if_neg hnm).trans ((if_neg t1).trans (if_neg t6)))
            rw [ee] at k
            exact k _ _ ⟨F18, D18⟩
      · refine wp_aload_n dX8_atom4_110 rfl rfl ?_
        refine wp_get 69 rfl fl_RX8_175 rfl ⟨by omega, by omega⟩ dX8_atom4_111 rfl (v := (M0 69 24)) (rfl) ?_
        refine wp_l2i dX8_atom4_114 ?_
        refine wp_istore_n (loc' := [(2, 69), (0, (wrap (M0 69 24)))]) dX8_atom4_115 rfl (Nat.le_of_ble_eq_true rfl) rfl ?_
        refine wp_aload_n dX8_atom4_116 rfl rfl ?_
        refine wp_callV0 (d' := d - 1) cv_RX8_197 69 rfl [] [] rfl rfl (Or.inl ⟨_, _, rfl, by decide, rfl, by omega, by omega⟩) (by omega) (Nat.le_of_ble_eq_true rfl) dX8_atom4_117 rfl (Nat.le_of_ble_eq_true rfl) (by omega) (loc1 := [(2, 69), (9, 0), (9, 0)]) rfl ?_
        have t2 := hJ.2.1.2.2.two.1.mp h107
        refine sp_next hn (by omega) hB (hJ).1 ((hJ).2.1.2.1 ((hJ).2.1.2.2.ne4 (by omega))) (lxN_le hx).1 (fun M20 f20 l20 => ?_)
        have J20 := (hJ).step f20 l20
        have F20 := ((Fr.rf : Fr VMr M0 M0)).tr (f20.mono VM1.r)
        have X20 := lxN_le (f := f) hx
        have Y20 := lxA_le (f := f) hx
        refine wp_goto (tgt := 161) dX8_atom4_120 (by decide) ?_
        refine wp_iload_n dX8_atom4_161 rfl rfl ?_
        refine wp_iret rfl dX8_atom4_162 ?_
        have two := hJ.2.1.2.2.two
        have t2 := two.1.mp h107
        have ee : oneP f z (some q) x = .inr (lxN f z x, [lxV f z x], fun _ => lxV f z x) := if_pos t2
        rw [ee] at k
        have hv := lxV_r hx t2
        exact k _ _ ⟨F20, J20, by rw [two.2 h107, wrap_id (by omega)]⟩
set_option maxRecDepth 20000 in
set_option maxHeartbeats 4000000 in
theorem cm_not4 {l : Launch} {g : Gw} {n : Nat} (hn : 90 ≤ n) {t : Nat} {f : Nat → Int} {z : Int} {e : Int → Int} {B : Nat} (hB8 : 12 ≤ B) (hB : BT f z) {o : Int} (ho : 0 ≤ o ∧ o < 5) {q : P3} (hq : OK3 z q) (hs2 : CMm l g n t f z e m_X8_not5 [(9, 0), (9, 0), (9, 0)] B (o + 1) q.2.1) {P : Nat → PR} (hqc : ∀ x : Nat, (x : Int) ≤ z → PQ z x (P x)) (hc : CMm l g n t f z e m_X8_added4 [(9, 0), (9, 0), (9, 0)] B o P) : CMm l g n t f z e m_X8_not4 [(9, 0), (9, 0), (9, 0)] (B + 1) o (notP f z (some q) (gBn f z opC 1 P)) := by
  intro d M0 Q x hd hJ hx k
  have hz1 := hJ.1.2.2.2.2.2.1
  refine wp_aload_n dX8_not4_0 rfl rfl ?_
  refine wp_bipush dX8_not4_1 (by decide) (by decide) ?_
  refine wp_bipush dX8_not4_3 (by decide) (by decide) ?_
  refine wp_bipush dX8_not4_5 (by decide) (by decide) ?_
  refine wp_iconst dX8_not4_7 (by decide) ?_
  refine wp_iconst dX8_not4_8 (by decide) ?_
  refine wp_iconst dX8_not4_9 (by decide) ?_
  refine wp_iconst dX8_not4_10 (by decide) ?_
  refine wp_iconst dX8_not4_11 (by decide) ?_
  refine wp_callV0 (d' := d - 1) cv_RX8_200 69 rfl [(0, 110), (0, 111), (0, 116), (0, 0), (0, 0), (0, 0), (0, 0), (0, 0)] [] rfl rfl (Or.inl ⟨_, _, rfl, by decide, rfl, by omega, by omega⟩) (by omega) (Nat.le_of_ble_eq_true rfl) dX8_not4_12 rfl (Nat.le_of_ble_eq_true rfl) (by omega) (loc1 := [(2, 69), (0, 110), (0, 111), (0, 116), (0, 0), (0, 0), (0, 0), (0, 0), (0, 0)]) rfl ?_
  refine sp_isWm_5 hn (by omega) hJ hx (fun t1 => ?_) (fun t1 => ?_)
  · refine wp_if_eq (tgt := 52) dX8_not4_15 (by decide) (fun h => absurd h (by decide)) (fun _ => ?_)
    refine wp_aload_n dX8_not4_18 rfl rfl ?_
    refine wp_callV0 (d' := d - 1) cv_RX8_225 69 rfl [] [] rfl rfl (Or.inl ⟨_, _, rfl, by decide, rfl, by omega, by omega⟩) (by omega) (Nat.le_of_ble_eq_true rfl) dX8_not4_19 rfl (Nat.le_of_ble_eq_true rfl) (by omega) (loc1 := [(2, 69)]) rfl ?_
    refine sp_opensm hn (by omega) hB hJ hx ho (by omega) (fun M2 J2 f2 => ?_)
    have F2 := ((Fr.rf : Fr VMr M0 M0)).tr f2
    have X2 := lxN_le (f := f) hx
    have Y2 := lxA_le (f := f) hx
    refine wp_if_ne (tgt := 27) dX8_not4_22 (by decide) (fun _ => ?_) (fun h => absurd h (by decide))
    refine wp_aload_n dX8_not4_27 rfl rfl ?_
    refine wp_callV0 (d' := d - 1) cv_RX8_246 69 rfl [] [] rfl rfl (Or.inl ⟨_, _, rfl, by decide, rfl, by omega, by omega⟩) (by omega) (Nat.le_of_ble_eq_true rfl) dX8_not4_28 rfl (Nat.le_of_ble_eq_true rfl) (by omega) (loc1 := [(2, 69), (9, 0), (9, 0), (9, 0)]) rfl ?_
    refine hs2 _ _ _ _ (by omega) J2 X2.1 (fun M3 w3 q3 => ?_)
    obtain ⟨f3, q3⟩ := q3
    have F3 := (F2).tr f3
    have b3 := hq.2.1 _ X2.1
    generalize r3 : q.2.1 (lxN f z x) = u3 at q3 b3
    rcases u3 with p3 | ⟨y3, c3, v3⟩
    · have D3 : DJm M3 t f z p3 (o + 1) e := q3
      refine wp_istore_n (loc' := [(2, 69), (0, w3), (9, 0), (9, 0)]) dX8_not4_31 rfl (Nat.le_of_ble_eq_true rfl) rfl ?_
      refine wp_aload_n dX8_not4_32 rfl rfl ?_
      refine wp_dup dX8_not4_33 (Or.inr rfl) ?_
      refine wp_get 69 rfl fl_RX8_191 rfl ⟨by omega, by omega⟩ dX8_not4_34 rfl (v := (o + 1)) (D3.2.1) ?_
      refine wp_iconst dX8_not4_37 (by decide) ?_
      refine wp_isub dX8_not4_38 (by omega) ?_
      refine wp_puti 69 rfl fl_RX8_191 rfl ⟨by omega, by omega⟩ dX8_not4_39 rfl rfl ?_
      refine wp_iload_n dX8_not4_42 rfl rfl ?_
      refine wp_if_ne (tgt := 50) dX8_not4_43 (by decide) (fun h43 => ?_) (fun h43 => ?_)
      · refine wp_iconst dX8_not4_50 (by decide) ?_
        refine wp_iret rfl dX8_not4_51 ?_
        have J4 := (D3).opn (show ((o + 1) - 1) = o by omega)
        have B4 : Fr VMr M0 (mu M3 69 25 ((o + 1) - 1)) := (F3).tr fm25
        generalize (mu M3 69 25 ((o + 1) - 1)) = N4 at J4 B4 ⊢
        have ee : notP f z (some q) (gBn f z opC 1 P) x = pbd (q.2.1 (lxN f z x)) (fun y c v => .inr (y, c ++ [-9], fun e => if v e = 0 then 1 else 0)) := if_pos t1
        rw [ee, r3] at k
        exact k _ _ ⟨B4, J4⟩
      · refine wp_iconst dX8_not4_46 (by decide) ?_
        refine wp_goto (tgt := 51) dX8_not4_47 (by decide) ?_
        refine wp_iret rfl dX8_not4_51 ?_
        have J5 := (D3).opn (show ((o + 1) - 1) = o by omega)
        have B5 : Fr VMr M0 (mu M3 69 25 ((o + 1) - 1)) := (F3).tr fm25
        generalize (mu M3 69 25 ((o + 1) - 1)) = N5 at J5 B5 ⊢
        have ee : notP f z (some q) (gBn f z opC 1 P) x = pbd (q.2.1 (lxN f z x)) (fun y c v => .inr (y, c ++ [-9], fun e => if v e = 0 then 1 else 0)) := if_pos t1
        rw [ee, r3] at k
        exact k _ _ ⟨B5, J5⟩
    · obtain ⟨J3, e3⟩ : RJm M3 t f z y3 (o + 1) e ∧ w3 = v3 e := q3
      obtain ⟨b3, B3, _⟩ : (lxN f z x) + c3.length ≤ y3 ∧ (y3 : Int) ≤ z ∧ _ := b3
      refine wp_istore_n (loc' := [(2, 69), (0, w3), (9, 0), (9, 0)]) dX8_not4_31 rfl (Nat.le_of_ble_eq_true rfl) rfl ?_
      refine wp_aload_n dX8_not4_32 rfl rfl ?_
      refine wp_dup dX8_not4_33 (Or.inr rfl) ?_
      refine wp_get 69 rfl fl_RX8_191 rfl ⟨by omega, by omega⟩ dX8_not4_34 rfl (v := (o + 1)) (J3.2.2.1) ?_
      refine wp_iconst dX8_not4_37 (by decide) ?_
      refine wp_isub dX8_not4_38 (by omega) ?_
      refine wp_puti 69 rfl fl_RX8_191 rfl ⟨by omega, by omega⟩ dX8_not4_39 rfl rfl ?_
      refine wp_iload_n dX8_not4_42 rfl rfl ?_
      refine wp_if_ne (tgt := 50) dX8_not4_43 (by decide) (fun h43 => ?_) (fun h43 => ?_)
      · refine wp_iconst dX8_not4_50 (by decide) ?_
        refine wp_iret rfl dX8_not4_51 ?_
        have J6 := (J3).opn (show ((o + 1) - 1) = o by omega)
        have B6 : Fr VMr M0 (mu M3 69 25 ((o + 1) - 1)) := (F3).tr fm25
        generalize (mu M3 69 25 ((o + 1) - 1)) = N6 at J6 B6 ⊢
        have ee : notP f z (some q) (gBn f z opC 1 P) x = pbd (q.2.1 (lxN f z x)) (fun y c v => .inr (y, c ++ [-9], fun e => if v e = 0 then 1 else 0)) := if_pos t1
        rw [ee, r3] at k
        refine k _ _ ⟨B6, J6, ?_⟩
        show _ = (if v3 e = 0 then (1 : Int) else 0)
        rw [← e3]
        first | exact (if_pos (by omega)).symm | exact (if_neg (by omega)).symm
      · refine wp_iconst dX8_not4_46 (by decide) ?_
        refine wp_goto (tgt := 51) dX8_not4_47 (by decide) ?_
        refine wp_iret rfl dX8_not4_51 ?_
        have J7 := (J3).opn (show ((o + 1) - 1) = o by omega)
        have B7 : Fr VMr M0 (mu M3 69 25 ((o + 1) - 1)) := (F3).tr fm25
        generalize (mu M3 69 25 ((o + 1) - 1)) = N7 at J7 B7 ⊢
        have ee : notP f z (some q) (gBn f z opC 1 P) x = pbd (q.2.1 (lxN f z x)) (fun y c v => .inr (y, c ++ [-9], fun e => if v e = 0 then 1 else 0)) := if_pos t1
        rw [ee, r3] at k
        refine k _ _ ⟨B7, J7, ?_⟩
        show _ = (if v3 e = 0 then (1 : Int) else 0)
        rw [← e3]
        first | exact (if_pos (by omega)).symm | exact (if_neg (by omega)).symm
  · refine wp_if_eq (tgt := 52) dX8_not4_15 (by decide) (fun _ => ?_) (fun h => absurd h (by decide))
    refine wp_aload_n dX8_not4_52 rfl rfl ?_
    refine wp_callV0 (d' := d - 1) cv_RX8_261 69 rfl [] [] rfl rfl (Or.inl ⟨_, _, rfl, by decide, rfl, by omega, by omega⟩) (by omega) (Nat.le_of_ble_eq_true rfl) dX8_not4_53 rfl (Nat.le_of_ble_eq_true rfl) (by omega) (loc1 := [(2, 69), (9, 0), (9, 0), (9, 0)]) rfl ?_
    refine hc _ _ _ _ (by omega) hJ hx (fun M8 w8 q8 => ?_)
    obtain ⟨f8, q8⟩ := q8
    have F8 := ((Fr.rf : Fr VMr M0 M0)).tr f8
    have b8 := hqc _ hx
    generalize r8 : P x = u8 at q8 b8
    rcases u8 with p8 | ⟨y8, c8, v8⟩
    · have D8 : DJm M8 t f z p8 o e := q8
      refine wp_istore_n (loc' := [(2, 69), (0, w8), (9, 0), (9, 0)]) dX8_not4_56 rfl (Nat.le_of_ble_eq_true rfl) rfl ?_
      refine wp_aload_n dX8_not4_57 rfl rfl ?_
      refine wp_bipush dX8_not4_58 (by decide) (by decide) ?_
      refine wp_callV0 (d' := d - 1) cv_RX8_222 69 rfl [(0, 60)] [] rfl rfl (Or.inl ⟨_, _, rfl, by decide, rfl, by omega, by omega⟩) (by omega) (Nat.le_of_ble_eq_true rfl) dX8_not4_60 rfl (Nat.le_of_ble_eq_true rfl) (by omega) (loc1 := [(2, 69), (0, 60)]) rfl ?_
      refine sp_isSd hn D8 ?_
      refine wp_if_ne (tgt := 77) dX8_not4_63 (by decide) (fun h => absurd h (by decide)) (fun _ => ?_)
      refine wp_aload_n dX8_not4_66 rfl rfl ?_
      refine wp_bipush dX8_not4_67 (by decide) (by decide) ?_
      refine wp_callV0 (d' := d - 1) cv_RX8_222 69 rfl [(0, 61)] [] rfl rfl (Or.inl ⟨_, _, rfl, by decide, rfl, by omega, by omega⟩) (by omega) (Nat.le_of_ble_eq_true rfl) dX8_not4_69 rfl (Nat.le_of_ble_eq_true rfl) (by omega) (loc1 := [(2, 69), (0, 61)]) rfl ?_
      refine sp_isSd hn D8 ?_
      refine wp_if_ne (tgt := 77) dX8_not4_72 (by decide) (fun h => absurd h (by decide)) (fun _ => ?_)
      refine wp_iload_n dX8_not4_75 rfl rfl ?_
      refine wp_iret rfl dX8_not4_76 ?_
      have ee : notP f z (some q) (gBn f z opC 1 P) x = pbd (P x) (fun y c v => gL f z opC P 1 y c v) := if_neg t1
      rw [ee, r8] at k
      exact k _ _ ⟨F8, D8⟩
    · obtain ⟨J8, e8⟩ : RJm M8 t f z y8 o e ∧ w8 = v8 e := q8
      obtain ⟨b8, B8, _⟩ : x + c8.length ≤ y8 ∧ (y8 : Int) ≤ z ∧ _ := b8
      refine wp_istore_n (loc' := [(2, 69), (0, w8), (9, 0), (9, 0)]) dX8_not4_56 rfl (Nat.le_of_ble_eq_true rfl) rfl ?_
      refine wp_aload_n dX8_not4_57 rfl rfl ?_
      refine wp_bipush dX8_not4_58 (by decide) (by decide) ?_
      refine wp_callV0 (d' := d - 1) cv_RX8_222 69 rfl [(0, 60)] [] rfl rfl (Or.inl ⟨_, _, rfl, by decide, rfl, by omega, by omega⟩) (by omega) (Nat.le_of_ble_eq_true rfl) dX8_not4_60 rfl (Nat.le_of_ble_eq_true rfl) (by omega) (loc1 := [(2, 69), (0, 60)]) rfl ?_
      refine sp_isSg hn J8 60 (by decide) (fun t11 => ?_) (fun t11 => ?_)
      · have g11 := ((J8).2.1.2.2.sgn (s := 60) (by decide)).mpr t11
        refine wp_if_ne (tgt := 77) dX8_not4_63 (by decide) (fun _ => ?_) (fun h => absurd h (by decide))
        refine wp_aload_n dX8_not4_77 rfl rfl ?_
        refine wp_get 69 rfl fl_RX8_175 rfl ⟨by omega, by omega⟩ dX8_not4_78 rfl (v := 60) (g11.2) ?_
        refine wp_ldc2 (x := 60) dX8_not4_81 kl_RX8_244 (by decide) (wr_l (by omega)) ?_
        refine wp_lcmp dX8_not4_84 ?_
        change Wp _ _ _ _ _ _ _ _ ((0, 0) :: _) _ _ _
        refine wp_if_ne (tgt := 92) dX8_not4_85 (by decide) (fun h => absurd h (by decide)) (fun _ => ?_)
        refine wp_iconst dX8_not4_88 (by decide) ?_
        refine wp_goto (tgt := 93) dX8_not4_89 (by decide) ?_
        refine wp_istore_n (loc' := [(2, 69), (0, w8), (0, 1), (9, 0)]) dX8_not4_93 rfl (Nat.le_of_ble_eq_true rfl) rfl ?_
        refine wp_aload_n dX8_not4_94 rfl rfl ?_
        refine wp_callV0 (d' := d - 1) cv_RX8_197 69 rfl [] [] rfl rfl (Or.inl ⟨_, _, rfl, by decide, rfl, by omega, by omega⟩) (by omega) (Nat.le_of_ble_eq_true rfl) dX8_not4_95 rfl (Nat.le_of_ble_eq_true rfl) (by omega) (loc1 := [(2, 69), (9, 0), (9, 0)]) rfl ?_
        refine sp_next hn (by omega) hB (J8).1 ((J8).2.1.2.1 ((J8).2.1.2.2.ne4 (by omega))) (lxN_le B8).1 (fun M12 f12 l12 => ?_)
        have J12 := (J8).step f12 l12
        have F12 := (F8).tr (f12.mono VM1.r)
        have X12 := lxN_le (f := f) B8
        have Y12 := lxA_le (f := f) B8
        refine wp_aload_n dX8_not4_98 rfl rfl ?_
        refine wp_callV0 (d' := d - 1) cv_RX8_261 69 rfl [] [] rfl rfl (Or.inl ⟨_, _, rfl, by decide, rfl, by omega, by omega⟩) (by omega) (Nat.le_of_ble_eq_true rfl) dX8_not4_99 rfl (Nat.le_of_ble_eq_true rfl) (by omega) (loc1 := [(2, 69), (9, 0), (9, 0), (9, 0)]) rfl ?_
        refine hc _ _ _ _ (by omega) J12 X12.1 (fun M13 w13 q13 => ?_)
        obtain ⟨f13, q13⟩ := q13
        have F13 := (F12).tr f13
        have b13 := hqc _ X12.1
        generalize r13 : P (lxN f z y8) = u13 at q13 b13
        rcases u13 with p13 | ⟨y13, c13, v13⟩
        · have D13 : DJm M13 t f z p13 o e := q13
          refine wp_istore_n (loc' := [(2, 69), (0, w8), (0, 1), (0, w13)]) dX8_not4_102 rfl (Nat.le_of_ble_eq_true rfl) rfl ?_
          refine wp_iload_n dX8_not4_103 rfl rfl ?_
          refine wp_if_eq (tgt := 115) dX8_not4_104 (by decide) (fun h => absurd h (by decide)) (fun _ => ?_)
          refine wp_iload_n dX8_not4_107 rfl rfl ?_
          refine wp_iload_n dX8_not4_108 rfl rfl ?_
          refine wp_icmp_ge (tgt := 124) dX8_not4_109 (by decide) (fun h109 => ?_) (fun h109 => ?_)
          · refine wp_iconst dX8_not4_124 (by decide) ?_
            refine wp_iret rfl dX8_not4_125 ?_
            have ee : notP f z (some q) (gBn f z opC 1 P) x = pbd (P x) (fun y c v => gL f z opC P 1 y c v) := if_neg t1
            rw [ee, r8] at k
            have eo : opC (lxT f z y8) = -10 := if_pos t11
            have e2 : gL f z opC P 1 y8 c8 v8 = pbd (P (lxN f z y8)) (fun y c' v' => gL f z opC P 0 y (c8 ++ c' ++ [opC (lxT f z y8)]) (fun e => jn (opC (lxT f z y8)) (v8 e) (v' e))) := if_neg (by rw [eo]; decide)
            replace k : ∀ M' w, PoM M0 t f z o e (gL f z opC P 1 y8 c8 v8) M' w → Q (some (0, w)) M' := k
            rw [e2, r13] at k
            exact k _ _ ⟨F13, D13⟩
          · refine wp_goto (tgt := 120) dX8_not4_112 (by decide) ?_
            refine wp_iconst dX8_not4_120 (by decide) ?_
            refine wp_goto (tgt := 125) dX8_not4_121 (by decide) ?_
            refine wp_iret rfl dX8_not4_125 ?_
            have ee : notP f z (some q) (gBn f z opC 1 P) x = pbd (P x) (fun y c v => gL f z opC P 1 y c v) := if_neg t1
            rw [ee, r8] at k
            have eo : opC (lxT f z y8) = -10 := if_pos t11
            have e2 : gL f z opC P 1 y8 c8 v8 = pbd (P (lxN f z y8)) (fun y c' v' => gL f z opC P 0 y (c8 ++ c' ++ [opC (lxT f z y8)]) (fun e => jn (opC (lxT f z y8)) (v8 e) (v' e))) := if_neg (by rw [eo]; decide)
            replace k : ∀ M' w, PoM M0 t f z o e (gL f z opC P 1 y8 c8 v8) M' w → Q (some (0, w)) M' := k
            rw [e2, r13] at k
            exact k _ _ ⟨F13, D13⟩
        · obtain ⟨J13, e13⟩ : RJm M13 t f z y13 o e ∧ w13 = v13 e := q13
          obtain ⟨b13, B13, _⟩ : (lxN f z y8) + c13.length ≤ y13 ∧ (y13 : Int) ≤ z ∧ _ := b13
          refine wp_istore_n (loc' := [(2, 69), (0, w8), (0, 1), (0, w13)]) dX8_not4_102 rfl (Nat.le_of_ble_eq_true rfl) rfl ?_
          refine wp_iload_n dX8_not4_103 rfl rfl ?_
          refine wp_if_eq (tgt := 115) dX8_not4_104 (by decide) (fun h => absurd h (by decide)) (fun _ => ?_)
          refine wp_iload_n dX8_not4_107 rfl rfl ?_
          refine wp_iload_n dX8_not4_108 rfl rfl ?_
          refine wp_icmp_ge (tgt := 124) dX8_not4_109 (by decide) (fun h109 => ?_) (fun h109 => ?_)
          · refine wp_iconst dX8_not4_124 (by decide) ?_
            refine wp_iret rfl dX8_not4_125 ?_
            have ee : notP f z (some q) (gBn f z opC 1 P) x = pbd (P x) (fun y c v => gL f z opC P 1 y c v) := if_neg t1
            rw [ee, r8] at k
            have eo : opC (lxT f z y8) = -10 := if_pos t11
            have e2 : gL f z opC P 1 y8 c8 v8 = pbd (P (lxN f z y8)) (fun y c' v' => gL f z opC P 0 y (c8 ++ c' ++ [opC (lxT f z y8)]) (fun e => jn (opC (lxT f z y8)) (v8 e) (v' e))) := if_neg (by rw [eo]; decide)
            replace k : ∀ M' w, PoM M0 t f z o e (gL f z opC P 1 y8 c8 v8) M' w → Q (some (0, w)) M' := k
            rw [e2, r13] at k
            refine k _ _ ⟨F13, J13, ?_⟩
            show _ = jn (opC (lxT f z y8)) (v8 e) (v13 e)
            rw [eo, ← e8, ← e13, jn10]
            first | exact (if_pos (by omega)).symm | exact (if_neg (by omega)).symm
          · refine wp_goto (tgt := 120) dX8_not4_112 (by decide) ?_
            refine wp_iconst dX8_not4_120 (by decide) ?_
            refine wp_goto (tgt := 125) dX8_not4_121 (by decide) ?_
            refine wp_iret rfl dX8_not4_125 ?_
            have ee : notP f z (some q) (gBn f z opC 1 P) x = pbd (P x) (fun y c v => gL f z opC P 1 y c v) := if_neg t1
            rw [ee, r8] at k
            have eo : opC (lxT f z y8) = -10 := if_pos t11
            have e2 : gL f z opC P 1 y8 c8 v8 = pbd (P (lxN f z y8)) (fun y c' v' => gL f z opC P 0 y (c8 ++ c' ++ [opC (lxT f z y8)]) (fun e => jn (opC (lxT f z y8)) (v8 e) (v' e))) := if_neg (by rw [eo]; decide)
            replace k : ∀ M' w, PoM M0 t f z o e (gL f z opC P 1 y8 c8 v8) M' w → Q (some (0, w)) M' := k
            rw [e2, r13] at k
            refine k _ _ ⟨F13, J13, ?_⟩
            show _ = jn (opC (lxT f z y8)) (v8 e) (v13 e)
            rw [eo, ← e8, ← e13, jn10]
            first | exact (if_pos (by omega)).symm | exact (if_neg (by omega)).symm
      · refine wp_if_ne (tgt := 77) dX8_not4_63 (by decide) (fun h => absurd h (by decide)) (fun _ => ?_)
        refine wp_aload_n dX8_not4_66 rfl rfl ?_
        refine wp_bipush dX8_not4_67 (by decide) (by decide) ?_
        refine wp_callV0 (d' := d - 1) cv_RX8_222 69 rfl [(0, 61)] [] rfl rfl (Or.inl ⟨_, _, rfl, by decide, rfl, by omega, by omega⟩) (by omega) (Nat.le_of_ble_eq_true rfl) dX8_not4_69 rfl (Nat.le_of_ble_eq_true rfl) (by omega) (loc1 := [(2, 69), (0, 61)]) rfl ?_
        refine sp_isSg hn J8 61 (by decide) (fun t14 => ?_) (fun t14 => ?_)
        · have g14 := ((J8).2.1.2.2.sgn (s := 61) (by decide)).mpr t14
          refine wp_if_ne (tgt := 77) dX8_not4_72 (by decide) (fun _ => ?_) (fun h => absurd h (by decide))
          refine wp_aload_n dX8_not4_77 rfl rfl ?_
          refine wp_get 69 rfl fl_RX8_175 rfl ⟨by omega, by omega⟩ dX8_not4_78 rfl (v := 61) (g14.2) ?_
          refine wp_ldc2 (x := 60) dX8_not4_81 kl_RX8_244 (by decide) (wr_l (by omega)) ?_
          refine wp_lcmp dX8_not4_84 ?_
          change Wp _ _ _ _ _ _ _ _ ((0, 1) :: _) _ _ _
          refine wp_if_ne (tgt := 92) dX8_not4_85 (by decide) (fun _ => ?_) (fun h => absurd h (by decide))
          refine wp_iconst dX8_not4_92 (by decide) ?_
          refine wp_istore_n (loc' := [(2, 69), (0, w8), (0, 0), (9, 0)]) dX8_not4_93 rfl (Nat.le_of_ble_eq_true rfl) rfl ?_
          refine wp_aload_n dX8_not4_94 rfl rfl ?_
          refine wp_callV0 (d' := d - 1) cv_RX8_197 69 rfl [] [] rfl rfl (Or.inl ⟨_, _, rfl, by decide, rfl, by omega, by omega⟩) (by omega) (Nat.le_of_ble_eq_true rfl) dX8_not4_95 rfl (Nat.le_of_ble_eq_true rfl) (by omega) (loc1 := [(2, 69), (9, 0), (9, 0)]) rfl ?_
          refine sp_next hn (by omega) hB (J8).1 ((J8).2.1.2.1 ((J8).2.1.2.2.ne4 (by omega))) (lxN_le B8).1 (fun M15 f15 l15 => ?_)
          have J15 := (J8).step f15 l15
          have F15 := (F8).tr (f15.mono VM1.r)
          have X15 := lxN_le (f := f) B8
          have Y15 := lxA_le (f := f) B8
          refine wp_aload_n dX8_not4_98 rfl rfl ?_
          refine wp_callV0 (d' := d - 1) cv_RX8_261 69 rfl [] [] rfl rfl (Or.inl ⟨_, _, rfl, by decide, rfl, by omega, by omega⟩) (by omega) (Nat.le_of_ble_eq_true rfl) dX8_not4_99 rfl (Nat.le_of_ble_eq_true rfl) (by omega) (loc1 := [(2, 69), (9, 0), (9, 0), (9, 0)]) rfl ?_
          refine hc _ _ _ _ (by omega) J15 X15.1 (fun M16 w16 q16 => ?_)
          obtain ⟨f16, q16⟩ := q16
          have F16 := (F15).tr f16
          have b16 := hqc _ X15.1
          generalize r16 : P (lxN f z y8) = u16 at q16 b16
          rcases u16 with p16 | ⟨y16, c16, v16⟩
          · have D16 : DJm M16 t f z p16 o e := q16
            refine wp_istore_n (loc' := [(2, 69), (0, w8), (0, 0), (0, w16)]) dX8_not4_102 rfl (Nat.le_of_ble_eq_true rfl) rfl ?_
            refine wp_iload_n dX8_not4_103 rfl rfl ?_
            refine wp_if_eq (tgt := 115) dX8_not4_104 (by decide) (fun _ => ?_) (fun h => absurd h (by decide))
            refine wp_iload_n dX8_not4_115 rfl rfl ?_
            refine wp_iload_n dX8_not4_116 rfl rfl ?_
            refine wp_icmp_ne (tgt := 124) dX8_not4_117 (by decide) (fun h117 => ?_) (fun h117 => ?_)
            · refine wp_iconst dX8_not4_124 (by decide) ?_
              refine wp_iret rfl dX8_not4_125 ?_
              have ee : notP f z (some q) (gBn f z opC 1 P) x = pbd (P x) (fun y c v => gL f z opC P 1 y c v) := if_neg t1
              rw [ee, r8] at k
              have eo : opC (lxT f z y8) = -11 := (if_neg t11).trans (if_pos t14)
              have e2 : gL f z opC P 1 y8 c8 v8 = pbd (P (lxN f z y8)) (fun y c' v' => gL f z opC P 0 y (c8 ++ c' ++ [opC (lxT f z y8)]) (fun e => jn (opC (lxT f z y8)) (v8 e) (v' e))) := if_neg (by rw [eo]; decide)
              replace k : ∀ M' w, PoM M0 t f z o e (gL f z opC P 1 y8 c8 v8) M' w → Q (some (0, w)) M' := k
              rw [e2, r16] at k
              exact k _ _ ⟨F16, D16⟩
            · refine wp_iconst dX8_not4_120 (by decide) ?_
              refine wp_goto (tgt := 125) dX8_not4_121 (by decide) ?_
              refine wp_iret rfl dX8_not4_125 ?_
              have ee : notP f z (some q) (gBn f z opC 1 P) x = pbd (P x) (fun y c v => gL f z opC P 1 y c v) := if_neg t1
              rw [ee, r8] at k
              have eo : opC (lxT f z y8) = -11 := (if_neg t11).trans (if_pos t14)
              have e2 : gL f z opC P 1 y8 c8 v8 = pbd (P (lxN f z y8)) (fun y c' v' => gL f z opC P 0 y (c8 ++ c' ++ [opC (lxT f z y8)]) (fun e => jn (opC (lxT f z y8)) (v8 e) (v' e))) := if_neg (by rw [eo]; decide)
              replace k : ∀ M' w, PoM M0 t f z o e (gL f z opC P 1 y8 c8 v8) M' w → Q (some (0, w)) M' := k
              rw [e2, r16] at k
              exact k _ _ ⟨F16, D16⟩
          · obtain ⟨J16, e16⟩ : RJm M16 t f z y16 o e ∧ w16 = v16 e := q16
            obtain ⟨b16, B16, _⟩ : (lxN f z y8) + c16.length ≤ y16 ∧ (y16 : Int) ≤ z ∧ _ := b16
            refine wp_istore_n (loc' := [(2, 69), (0, w8), (0, 0), (0, w16)]) dX8_not4_102 rfl (Nat.le_of_ble_eq_true rfl) rfl ?_
            refine wp_iload_n dX8_not4_103 rfl rfl ?_
            refine wp_if_eq (tgt := 115) dX8_not4_104 (by decide) (fun _ => ?_) (fun h => absurd h (by decide))
            refine wp_iload_n dX8_not4_115 rfl rfl ?_
            refine wp_iload_n dX8_not4_116 rfl rfl ?_
            refine wp_icmp_ne (tgt := 124) dX8_not4_117 (by decide) (fun h117 => ?_) (fun h117 => ?_)
            · refine wp_iconst dX8_not4_124 (by decide) ?_
              refine wp_iret rfl dX8_not4_125 ?_
              have ee : notP f z (some q) (gBn f z opC 1 P) x = pbd (P x) (fun y c v => gL f z opC P 1 y c v) := if_neg t1
              rw [ee, r8] at k
              have eo : opC (lxT f z y8) = -11 := (if_neg t11).trans (if_pos t14)
              have e2 : gL f z opC P 1 y8 c8 v8 = pbd (P (lxN f z y8)) (fun y c' v' => gL f z opC P 0 y (c8 ++ c' ++ [opC (lxT f z y8)]) (fun e => jn (opC (lxT f z y8)) (v8 e) (v' e))) := if_neg (by rw [eo]; decide)
              replace k : ∀ M' w, PoM M0 t f z o e (gL f z opC P 1 y8 c8 v8) M' w → Q (some (0, w)) M' := k
              rw [e2, r16] at k
              refine k _ _ ⟨F16, J16, ?_⟩
              show _ = jn (opC (lxT f z y8)) (v8 e) (v16 e)
              rw [eo, ← e8, ← e16, jn11]
              first | exact (if_pos (by omega)).symm | exact (if_neg (by omega)).symm
            · refine wp_iconst dX8_not4_120 (by decide) ?_
              refine wp_goto (tgt := 125) dX8_not4_121 (by decide) ?_
              refine wp_iret rfl dX8_not4_125 ?_
              have ee : notP f z (some q) (gBn f z opC 1 P) x = pbd (P x) (fun y c v => gL f z opC P 1 y c v) := if_neg t1
              rw [ee, r8] at k
              have eo : opC (lxT f z y8) = -11 := (if_neg t11).trans (if_pos t14)
              have e2 : gL f z opC P 1 y8 c8 v8 = pbd (P (lxN f z y8)) (fun y c' v' => gL f z opC P 0 y (c8 ++ c' ++ [opC (lxT f z y8)]) (fun e => jn (opC (lxT f z y8)) (v8 e) (v' e))) := if_neg (by rw [eo]; decide)
              replace k : ∀ M' w, PoM M0 t f z o e (gL f z opC P 1 y8 c8 v8) M' w → Q (some (0, w)) M' := k
              rw [e2, r16] at k
              refine k _ _ ⟨F16, J16, ?_⟩
              show _ = jn (opC (lxT f z y8)) (v8 e) (v16 e)
              rw [eo, ← e8, ← e16, jn11]
              first | exact (if_pos (by omega)).symm | exact (if_neg (by omega)).symm
        · refine wp_if_ne (tgt := 77) dX8_not4_72 (by decide) (fun h => absurd h (by decide)) (fun _ => ?_)
          refine wp_iload_n dX8_not4_75 rfl rfl ?_
          refine wp_iret rfl dX8_not4_76 ?_
          have ee : notP f z (some q) (gBn f z opC 1 P) x = pbd (P x) (fun y c v => gL f z opC P 1 y c v) := if_neg t1
          rw [ee, r8] at k
          have e2 : gL f z opC P 1 y8 c8 v8 = .inr (y8, c8, v8) := if_pos (show opC (lxT f z y8) = 0 from (if_neg t11).trans (if_neg t14))
          replace k : ∀ M' w, PoM M0 t f z o e (gL f z opC P 1 y8 c8 v8) M' w → Q (some (0, w)) M' := k
          rw [e2] at k
          exact k _ _ ⟨F8, J8, e8⟩
set_option maxRecDepth 20000 in
set_option maxHeartbeats 4000000 in
theorem lq_term5 {l : Launch} {g : Gw} {n : Nat} (hn : 90 ≤ n) {t : Nat} {f : Nat → Int} {z : Int} {e : Int → Int} {B : Nat} (hB8 : 12 ≤ B) (hB : BT f z) {o : Int} {P : Nat → PR} (hs : CMm l g n t f z e m_X8_atom5 [(9, 0)] B o P) (hq : ∀ x : Nat, (x : Int) ≤ z → PQ z x (P x)) {d : Nat} (hd : B + 1 ≤ d) : ∀ (m x : Nat) (ce : List Int) (vl : Vl) (v : Int) (M0 : Mm) (Q : Option Wd → Mm → Prop), z ≤ (x : Int) + m → RJm M0 t f z x o e → (x : Int) ≤ z → v = vl e → (∀ M' w, PoM M0 t f z o e (gL f z opT P m x ce vl) M' w → Q (some (0, w)) M') → Wp l g d 0 0 n m_X8_term5 5 [] [(2, 69), (0, v)] M0 Q := by
  intro m
  induction m with
  | zero =>
    intro x ce vl v M0 Q hm hJ hx hv k
    refine wp_aload_n dX8_term5_5 rfl rfl ?_
    refine wp_bipush dX8_term5_6 (by decide) (by decide) ?_
    refine wp_callV0 (d' := d - 1) cv_RX8_222 69 rfl [(0, 42)] [] rfl rfl (Or.inl ⟨_, _, rfl, by decide, rfl, by omega, by omega⟩) (by omega) (Nat.le_of_ble_eq_true rfl) dX8_term5_8 rfl (Nat.le_of_ble_eq_true rfl) (by omega) (loc1 := [(2, 69), (0, 42)]) rfl ?_
    refine sp_isSg hn hJ 42 (by decide) (fun t1 => absurd t1 (by rw [lxT_end (by omega)]; decide)) (fun t1 => ?_)
    refine wp_if_eq (tgt := 28) dX8_term5_11 (by decide) (fun _ => ?_) (fun h => absurd h (by decide))
    refine wp_iload_n dX8_term5_28 rfl rfl ?_
    refine wp_iret rfl dX8_term5_29 ?_
    exact k _ _ ⟨Fr.rf, hJ, hv⟩
  | succ m ih =>
    intro x ce vl v M0 Q hm hJ hx hv k
    refine wp_aload_n dX8_term5_5 rfl rfl ?_
    refine wp_bipush dX8_term5_6 (by decide) (by decide) ?_
    refine wp_callV0 (d' := d - 1) cv_RX8_222 69 rfl [(0, 42)] [] rfl rfl (Or.inl ⟨_, _, rfl, by decide, rfl, by omega, by omega⟩) (by omega) (Nat.le_of_ble_eq_true rfl) dX8_term5_8 rfl (Nat.le_of_ble_eq_true rfl) (by omega) (loc1 := [(2, 69), (0, 42)]) rfl ?_
    refine sp_isSg hn hJ 42 (by decide) (fun t1 => ?_) (fun t1 => ?_)
    · have g1 := ((hJ).2.1.2.2.sgn (s := 42) (by decide)).mpr t1
      refine wp_if_eq (tgt := 28) dX8_term5_11 (by decide) (fun h => absurd h (by decide)) (fun _ => ?_)
      refine wp_aload_n dX8_term5_14 rfl rfl ?_
      refine wp_callV0 (d' := d - 1) cv_RX8_197 69 rfl [] [] rfl rfl (Or.inl ⟨_, _, rfl, by decide, rfl, by omega, by omega⟩) (by omega) (Nat.le_of_ble_eq_true rfl) dX8_term5_15 rfl (Nat.le_of_ble_eq_true rfl) (by omega) (loc1 := [(2, 69), (9, 0), (9, 0)]) rfl ?_
      refine sp_next hn (by omega) hB (hJ).1 ((hJ).2.1.2.1 ((hJ).2.1.2.2.ne4 (by omega))) (lxN_le hx).1 (fun M2 f2 l2 => ?_)
      have J2 := (hJ).step f2 l2
      have F2 := ((Fr.rf : Fr VMr M0 M0)).tr (f2.mono VM1.r)
      have X2 := lxN_le (f := f) hx
      have Y2 := lxA_le (f := f) hx
      refine wp_iload_n dX8_term5_18 rfl rfl ?_
      refine wp_aload_n dX8_term5_19 rfl rfl ?_
      refine wp_callV0 (d' := d - 1) cv_RX8_233 69 rfl [] [(0, v)] rfl rfl (Or.inl ⟨_, _, rfl, by decide, rfl, by omega, by omega⟩) (by omega) (Nat.le_of_ble_eq_true rfl) dX8_term5_20 rfl (Nat.le_of_ble_eq_true rfl) (by omega) (loc1 := [(2, 69), (9, 0)]) rfl ?_
      refine hs _ _ _ _ (by omega) J2 X2.1 (fun M3 w3 q3 => ?_)
      obtain ⟨f3, q3⟩ := q3
      have F3 := (F2).tr f3
      have b3 := hq _ X2.1
      generalize r3 : P (lxN f z x) = u3 at q3 b3
      rcases u3 with p3 | ⟨y3, c3, v3⟩
      · have D3 : DJm M3 t f z p3 o e := q3
        refine wp_imulw dX8_term5_23 ?_
        refine wp_istore_n (loc' := [(2, 69), (0, (wrap (v * w3)))]) dX8_term5_24 rfl (Nat.le_of_ble_eq_true rfl) rfl ?_
        refine wp_goto (tgt := 5) dX8_term5_25 (by decide) ?_
        have eo : opT (lxT f z x) = -14 := if_pos t1
        have ee : gL f z opT P (m + 1) x ce vl = pbd (P (lxN f z x)) (fun y c' v' => gL f z opT P m y (ce ++ c' ++ [opT (lxT f z x)]) (fun e => jn (opT (lxT f z x)) (vl e) (v' e))) := if_neg (by rw [eo]; decide)
        rw [ee, r3] at k
        exact lqd_term5 hn (by omega) (D3) (fun M9 w9 f9 d9 => k M9 w9 ⟨(F3).tr f9, d9⟩)
      · obtain ⟨J3, e3⟩ : RJm M3 t f z y3 o e ∧ w3 = v3 e := q3
        obtain ⟨b3, B3, _⟩ : (lxN f z x) + c3.length ≤ y3 ∧ (y3 : Int) ≤ z ∧ _ := b3
        refine wp_imulw dX8_term5_23 ?_
        refine wp_istore_n (loc' := [(2, 69), (0, (wrap (v * w3)))]) dX8_term5_24 rfl (Nat.le_of_ble_eq_true rfl) rfl ?_
        refine wp_goto (tgt := 5) dX8_term5_25 (by decide) ?_
        have eo : opT (lxT f z x) = -14 := if_pos t1
        have ee : gL f z opT P (m + 1) x ce vl = pbd (P (lxN f z x)) (fun y c' v' => gL f z opT P m y (ce ++ c' ++ [opT (lxT f z x)]) (fun e => jn (opT (lxT f z x)) (vl e) (v' e))) := if_neg (by rw [eo]; decide)
        rw [ee, r3] at k
        have hv2 : (wrap (v * w3)) = jn (opT (lxT f z x)) (vl e) (v3 e) := by
          rw [eo, ← hv, ← e3, jn14]
        have hg := X2.2.2 (by omega)
        exact ih y3 _ (fun e => jn (opT (lxT f z x)) (vl e) (v3 e)) _ _ Q (by omega) J3 B3 hv2 (fun M9 w9 q9 => k M9 w9 ⟨(F3).tr q9.1, q9.2⟩)
    · refine wp_if_eq (tgt := 28) dX8_term5_11 (by decide) (fun _ => ?_) (fun h => absurd h (by decide))
      refine wp_iload_n dX8_term5_28 rfl rfl ?_
      refine wp_iret rfl dX8_term5_29 ?_
      have ee : gL f z opT P (m + 1) x ce vl = .inr (x, ce, vl) := if_pos (show opT (lxT f z x) = 0 from if_neg t1)
      rw [ee] at k
      exact k _ _ ⟨Fr.rf, hJ, hv⟩
set_option maxRecDepth 20000 in
set_option maxHeartbeats 4000000 in
theorem cm_term5 {l : Launch} {g : Gw} {n : Nat} (hn : 90 ≤ n) {t : Nat} {f : Nat → Int} {z : Int} {e : Int → Int} {B : Nat} (hB8 : 12 ≤ B) (hB : BT f z) {o : Int} {P : Nat → PR} (hs : CMm l g n t f z e m_X8_atom5 [(9, 0)] B o P) (hq : ∀ x : Nat, (x : Int) ≤ z → PQ z x (P x)) : CMm l g n t f z e m_X8_term5 [(9, 0)] (B + 1) o (gBn f z opT 160 P) := by
  intro d M0 Q x hd hJ hx k
  have hz1 := hJ.1.2.2.2.2.2.1
  refine wp_aload_n dX8_term5_0 rfl rfl ?_
  refine wp_callV0 (d' := d - 1) cv_RX8_233 69 rfl [] [] rfl rfl (Or.inl ⟨_, _, rfl, by decide, rfl, by omega, by omega⟩) (by omega) (Nat.le_of_ble_eq_true rfl) dX8_term5_1 rfl (Nat.le_of_ble_eq_true rfl) (by omega) (loc1 := [(2, 69), (9, 0)]) rfl ?_
  refine hs _ _ _ _ (by omega) hJ hx (fun M1 w1 q1 => ?_)
  obtain ⟨f1, q1⟩ := q1
  have F1 := ((Fr.rf : Fr VMr M0 M0)).tr f1
  have b1 := hq _ hx
  generalize r1 : P x = u1 at q1 b1
  rcases u1 with p1 | ⟨y1, c1, v1⟩
  · have D1 : DJm M1 t f z p1 o e := q1
    refine wp_istore_n (loc' := [(2, 69), (0, w1)]) dX8_term5_4 rfl (Nat.le_of_ble_eq_true rfl) rfl ?_
    have ee : gBn f z opT 160 P x = pbd (P x) (fun y c v => gL f z opT P 160 y c v) := rfl
    rw [ee, r1] at k
    exact lqd_term5 hn (by omega) (D1) (fun M9 w9 f9 d9 => k M9 w9 ⟨(F1).tr f9, d9⟩)
  · obtain ⟨J1, e1⟩ : RJm M1 t f z y1 o e ∧ w1 = v1 e := q1
    obtain ⟨b1, B1, _⟩ : x + c1.length ≤ y1 ∧ (y1 : Int) ≤ z ∧ _ := b1
    refine wp_istore_n (loc' := [(2, 69), (0, w1)]) dX8_term5_4 rfl (Nat.le_of_ble_eq_true rfl) rfl ?_
    have ee : gBn f z opT 160 P x = pbd (P x) (fun y c v => gL f z opT P 160 y c v) := rfl
    rw [ee, r1] at k
    exact lq_term5 hn hB8 hB hs hq hd 160 y1 c1 v1 w1 _ Q (by omega) J1 B1 e1 (fun M9 w9 q9 => k M9 w9 ⟨(F1).tr q9.1, q9.2⟩)
set_option maxRecDepth 20000 in
set_option maxHeartbeats 4000000 in
theorem lq_added5 {l : Launch} {g : Gw} {n : Nat} (hn : 90 ≤ n) {t : Nat} {f : Nat → Int} {z : Int} {e : Int → Int} {B : Nat} (hB8 : 12 ≤ B) (hB : BT f z) {o : Int} {P : Nat → PR} (hs : CMm l g n t f z e m_X8_term5 [(9, 0)] B o P) (hq : ∀ x : Nat, (x : Int) ≤ z → PQ z x (P x)) {d : Nat} (hd : B + 1 ≤ d) : ∀ (m x : Nat) (ce : List Int) (vl : Vl) (v : Int) (u2 : Wd) (u3 : Wd) (M0 : Mm) (Q : Option Wd → Mm → Prop), z ≤ (x : Int) + m → RJm M0 t f z x o e → (x : Int) ≤ z → v = vl e → (∀ M' w, PoM M0 t f z o e (gL f z opS P m x ce vl) M' w → Q (some (0, w)) M') → Wp l g d 0 0 n m_X8_added5 5 [] [(2, 69), (0, v), u2, u3] M0 Q := by
  intro m
  induction m with
  | zero =>
    intro x ce vl v u2 u3 M0 Q hm hJ hx hv k
    refine wp_aload_n dX8_added5_5 rfl rfl ?_
    refine wp_bipush dX8_added5_6 (by decide) (by decide) ?_
    refine wp_callV0 (d' := d - 1) cv_RX8_222 69 rfl [(0, 43)] [] rfl rfl (Or.inl ⟨_, _, rfl, by decide, rfl, by omega, by omega⟩) (by omega) (Nat.le_of_ble_eq_true rfl) dX8_added5_8 rfl (Nat.le_of_ble_eq_true rfl) (by omega) (loc1 := [(2, 69), (0, 43)]) rfl ?_
    refine sp_isSg hn hJ 43 (by decide) (fun t1 => absurd t1 (by rw [lxT_end (by omega)]; decide)) (fun t1 => ?_)
    refine wp_if_ne (tgt := 23) dX8_added5_11 (by decide) (fun h => absurd h (by decide)) (fun _ => ?_)
    refine wp_aload_n dX8_added5_14 rfl rfl ?_
    refine wp_bipush dX8_added5_15 (by decide) (by decide) ?_
    refine wp_callV0 (d' := d - 1) cv_RX8_222 69 rfl [(0, 45)] [] rfl rfl (Or.inl ⟨_, _, rfl, by decide, rfl, by omega, by omega⟩) (by omega) (Nat.le_of_ble_eq_true rfl) dX8_added5_17 rfl (Nat.le_of_ble_eq_true rfl) (by omega) (loc1 := [(2, 69), (0, 45)]) rfl ?_
    refine sp_isSg hn hJ 45 (by decide) (fun t2 => absurd t2 (by rw [lxT_end (by omega)]; decide)) (fun t2 => ?_)
    refine wp_if_eq (tgt := 66) dX8_added5_20 (by decide) (fun _ => ?_) (fun h => absurd h (by decide))
    refine wp_iload_n dX8_added5_66 rfl rfl ?_
    refine wp_iret rfl dX8_added5_67 ?_
    exact k _ _ ⟨Fr.rf, hJ, hv⟩
  | succ m ih =>
    intro x ce vl v u2 u3 M0 Q hm hJ hx hv k
    refine wp_aload_n dX8_added5_5 rfl rfl ?_
    refine wp_bipush dX8_added5_6 (by decide) (by decide) ?_
    refine wp_callV0 (d' := d - 1) cv_RX8_222 69 rfl [(0, 43)] [] rfl rfl (Or.inl ⟨_, _, rfl, by decide, rfl, by omega, by omega⟩) (by omega) (Nat.le_of_ble_eq_true rfl) dX8_added5_8 rfl (Nat.le_of_ble_eq_true rfl) (by omega) (loc1 := [(2, 69), (0, 43)]) rfl ?_
    refine sp_isSg hn hJ 43 (by decide) (fun t1 => ?_) (fun t1 => ?_)
    · have g1 := ((hJ).2.1.2.2.sgn (s := 43) (by decide)).mpr t1
      refine wp_if_ne (tgt := 23) dX8_added5_11 (by decide) (fun _ => ?_) (fun h => absurd h (by decide))
      refine wp_aload_n dX8_added5_23 rfl rfl ?_
      refine wp_get 69 rfl fl_RX8_175 rfl ⟨by omega, by omega⟩ dX8_added5_24 rfl (v := 43) (g1.2) ?_
      refine wp_ldc2 (x := 43) dX8_added5_27 kl_RX8_239 (by decide) (wr_l (by omega)) ?_
      refine wp_lcmp dX8_added5_30 ?_
      change Wp _ _ _ _ _ _ _ _ ((0, 0) :: _) _ _ _
      refine wp_if_ne (tgt := 38) dX8_added5_31 (by decide) (fun h => absurd h (by decide)) (fun _ => ?_)
      refine wp_iconst dX8_added5_34 (by decide) ?_
      refine wp_goto (tgt := 39) dX8_added5_35 (by decide) ?_
      refine wp_istore_n (loc' := [(2, 69), (0, v), (0, 1), u3]) dX8_added5_39 rfl (Nat.le_of_ble_eq_true rfl) rfl ?_
      refine wp_aload_n dX8_added5_40 rfl rfl ?_
      refine wp_callV0 (d' := d - 1) cv_RX8_197 69 rfl [] [] rfl rfl (Or.inl ⟨_, _, rfl, by decide, rfl, by omega, by omega⟩) (by omega) (Nat.le_of_ble_eq_true rfl) dX8_added5_41 rfl (Nat.le_of_ble_eq_true rfl) (by omega) (loc1 := [(2, 69), (9, 0), (9, 0)]) rfl ?_
      refine sp_next hn (by omega) hB (hJ).1 ((hJ).2.1.2.1 ((hJ).2.1.2.2.ne4 (by omega))) (lxN_le hx).1 (fun M2 f2 l2 => ?_)
      have J2 := (hJ).step f2 l2
      have F2 := ((Fr.rf : Fr VMr M0 M0)).tr (f2.mono VM1.r)
      have X2 := lxN_le (f := f) hx
      have Y2 := lxA_le (f := f) hx
      refine wp_aload_n dX8_added5_44 rfl rfl ?_
      refine wp_callV0 (d' := d - 1) cv_RX8_236 69 rfl [] [] rfl rfl (Or.inl ⟨_, _, rfl, by decide, rfl, by omega, by omega⟩) (by omega) (Nat.le_of_ble_eq_true rfl) dX8_added5_45 rfl (Nat.le_of_ble_eq_true rfl) (by omega) (loc1 := [(2, 69), (9, 0)]) rfl ?_
      refine hs _ _ _ _ (by omega) J2 X2.1 (fun M3 w3 q3 => ?_)
      obtain ⟨f3, q3⟩ := q3
      have F3 := (F2).tr f3
      have b3 := hq _ X2.1
      generalize r3 : P (lxN f z x) = u3 at q3 b3
      rcases u3 with p3 | ⟨y3, c3, v3⟩
      · have D3 : DJm M3 t f z p3 o e := q3
        refine wp_istore_n (loc' := [(2, 69), (0, v), (0, 1), (0, w3)]) dX8_added5_48 rfl (Nat.le_of_ble_eq_true rfl) rfl ?_
        refine wp_iload_n dX8_added5_49 rfl rfl ?_
        refine wp_if_eq (tgt := 59) dX8_added5_50 (by decide) (fun h => absurd h (by decide)) (fun _ => ?_)
        refine wp_iload_n dX8_added5_53 rfl rfl ?_
        refine wp_iload_n dX8_added5_54 rfl rfl ?_
        refine wp_iaddw dX8_added5_55 ?_
        refine wp_goto (tgt := 62) dX8_added5_56 (by decide) ?_
        refine wp_istore_n (loc' := [(2, 69), (0, (wrap (v + w3))), (0, 1), (0, w3)]) dX8_added5_62 rfl (Nat.le_of_ble_eq_true rfl) rfl ?_
        refine wp_goto (tgt := 5) dX8_added5_63 (by decide) ?_
        have eo : opS (lxT f z x) = -12 := if_pos t1
        have ee : gL f z opS P (m + 1) x ce vl = pbd (P (lxN f z x)) (fun y c' v' => gL f z opS P m y (ce ++ c' ++ [opS (lxT f z x)]) (fun e => jn (opS (lxT f z x)) (vl e) (v' e))) := if_neg (by rw [eo]; decide)
        rw [ee, r3] at k
        exact lqd_added5 hn (by omega) (D3) (fun M9 w9 f9 d9 => k M9 w9 ⟨(F3).tr f9, d9⟩)
      · obtain ⟨J3, e3⟩ : RJm M3 t f z y3 o e ∧ w3 = v3 e := q3
        obtain ⟨b3, B3, _⟩ : (lxN f z x) + c3.length ≤ y3 ∧ (y3 : Int) ≤ z ∧ _ := b3
        refine wp_istore_n (loc' := [(2, 69), (0, v), (0, 1), (0, w3)]) dX8_added5_48 rfl (Nat.le_of_ble_eq_true rfl) rfl ?_
        refine wp_iload_n dX8_added5_49 rfl rfl ?_
        refine wp_if_eq (tgt := 59) dX8_added5_50 (by decide) (fun h => absurd h (by decide)) (fun _ => ?_)
        refine wp_iload_n dX8_added5_53 rfl rfl ?_
        refine wp_iload_n dX8_added5_54 rfl rfl ?_
        refine wp_iaddw dX8_added5_55 ?_
        refine wp_goto (tgt := 62) dX8_added5_56 (by decide) ?_
        refine wp_istore_n (loc' := [(2, 69), (0, (wrap (v + w3))), (0, 1), (0, w3)]) dX8_added5_62 rfl (Nat.le_of_ble_eq_true rfl) rfl ?_
        refine wp_goto (tgt := 5) dX8_added5_63 (by decide) ?_
        have eo : opS (lxT f z x) = -12 := if_pos t1
        have ee : gL f z opS P (m + 1) x ce vl = pbd (P (lxN f z x)) (fun y c' v' => gL f z opS P m y (ce ++ c' ++ [opS (lxT f z x)]) (fun e => jn (opS (lxT f z x)) (vl e) (v' e))) := if_neg (by rw [eo]; decide)
        rw [ee, r3] at k
        have hv2 : (wrap (v + w3)) = jn (opS (lxT f z x)) (vl e) (v3 e) := by
          rw [eo, ← hv, ← e3, jn12]
        have hg := X2.2.2 (by omega)
        exact ih y3 _ (fun e => jn (opS (lxT f z x)) (vl e) (v3 e)) _ _ _ _ Q (by omega) J3 B3 hv2 (fun M9 w9 q9 => k M9 w9 ⟨(F3).tr q9.1, q9.2⟩)
    · refine wp_if_ne (tgt := 23) dX8_added5_11 (by decide) (fun h => absurd h (by decide)) (fun _ => ?_)
      refine wp_aload_n dX8_added5_14 rfl rfl ?_
      refine wp_bipush dX8_added5_15 (by decide) (by decide) ?_
      refine wp_callV0 (d' := d - 1) cv_RX8_222 69 rfl [(0, 45)] [] rfl rfl (Or.inl ⟨_, _, rfl, by decide, rfl, by omega, by omega⟩) (by omega) (Nat.le_of_ble_eq_true rfl) dX8_added5_17 rfl (Nat.le_of_ble_eq_true rfl) (by omega) (loc1 := [(2, 69), (0, 45)]) rfl ?_
      refine sp_isSg hn hJ 45 (by decide) (fun t4 => ?_) (fun t4 => ?_)
      · have g4 := ((hJ).2.1.2.2.sgn (s := 45) (by decide)).mpr t4
        refine wp_if_eq (tgt := 66) dX8_added5_20 (by decide) (fun h => absurd h (by decide)) (fun _ => ?_)
        refine wp_aload_n dX8_added5_23 rfl rfl ?_
        refine wp_get 69 rfl fl_RX8_175 rfl ⟨by omega, by omega⟩ dX8_added5_24 rfl (v := 45) (g4.2) ?_
        refine wp_ldc2 (x := 43) dX8_added5_27 kl_RX8_239 (by decide) (wr_l (by omega)) ?_
        refine wp_lcmp dX8_added5_30 ?_
        change Wp _ _ _ _ _ _ _ _ ((0, 1) :: _) _ _ _
        refine wp_if_ne (tgt := 38) dX8_added5_31 (by decide) (fun _ => ?_) (fun h => absurd h (by decide))
        refine wp_iconst dX8_added5_38 (by decide) ?_
        refine wp_istore_n (loc' := [(2, 69), (0, v), (0, 0), u3]) dX8_added5_39 rfl (Nat.le_of_ble_eq_true rfl) rfl ?_
        refine wp_aload_n dX8_added5_40 rfl rfl ?_
        refine wp_callV0 (d' := d - 1) cv_RX8_197 69 rfl [] [] rfl rfl (Or.inl ⟨_, _, rfl, by decide, rfl, by omega, by omega⟩) (by omega) (Nat.le_of_ble_eq_true rfl) dX8_added5_41 rfl (Nat.le_of_ble_eq_true rfl) (by omega) (loc1 := [(2, 69), (9, 0), (9, 0)]) rfl ?_
        refine sp_next hn (by omega) hB (hJ).1 ((hJ).2.1.2.1 ((hJ).2.1.2.2.ne4 (by omega))) (lxN_le hx).1 (fun M5 f5 l5 => ?_)
        have J5 := (hJ).step f5 l5
        have F5 := ((Fr.rf : Fr VMr M0 M0)).tr (f5.mono VM1.r)
        have X5 := lxN_le (f := f) hx
        have Y5 := lxA_le (f := f) hx
        refine wp_aload_n dX8_added5_44 rfl rfl ?_
        refine wp_callV0 (d' := d - 1) cv_RX8_236 69 rfl [] [] rfl rfl (Or.inl ⟨_, _, rfl, by decide, rfl, by omega, by omega⟩) (by omega) (Nat.le_of_ble_eq_true rfl) dX8_added5_45 rfl (Nat.le_of_ble_eq_true rfl) (by omega) (loc1 := [(2, 69), (9, 0)]) rfl ?_
        refine hs _ _ _ _ (by omega) J5 X5.1 (fun M6 w6 q6 => ?_)
        obtain ⟨f6, q6⟩ := q6
        have F6 := (F5).tr f6
        have b6 := hq _ X5.1
        generalize r6 : P (lxN f z x) = u6 at q6 b6
        rcases u6 with p6 | ⟨y6, c6, v6⟩
        · have D6 : DJm M6 t f z p6 o e := q6
          refine wp_istore_n (loc' := [(2, 69), (0, v), (0, 0), (0, w6)]) dX8_added5_48 rfl (Nat.le_of_ble_eq_true rfl) rfl ?_
          refine wp_iload_n dX8_added5_49 rfl rfl ?_
          refine wp_if_eq (tgt := 59) dX8_added5_50 (by decide) (fun _ => ?_) (fun h => absurd h (by decide))
          refine wp_iload_n dX8_added5_59 rfl rfl ?_
          refine wp_iload_n dX8_added5_60 rfl rfl ?_
          refine wp_isubw dX8_added5_61 ?_
          refine wp_istore_n (loc' := [(2, 69), (0, (wrap (v - w6))), (0, 0), (0, w6)]) dX8_added5_62 rfl (Nat.le_of_ble_eq_true rfl) rfl ?_
          refine wp_goto (tgt := 5) dX8_added5_63 (by decide) ?_
          have eo : opS (lxT f z x) = -13 := (if_neg t1).trans (if_pos t4)
          have ee : gL f z opS P (m + 1) x ce vl = pbd (P (lxN f z x)) (fun y c' v' => gL f z opS P m y (ce ++ c' ++ [opS (lxT f z x)]) (fun e => jn (opS (lxT f z x)) (vl e) (v' e))) := if_neg (by rw [eo]; decide)
          rw [ee, r6] at k
          exact lqd_added5 hn (by omega) (D6) (fun M9 w9 f9 d9 => k M9 w9 ⟨(F6).tr f9, d9⟩)
        · obtain ⟨J6, e6⟩ : RJm M6 t f z y6 o e ∧ w6 = v6 e := q6
          obtain ⟨b6, B6, _⟩ : (lxN f z x) + c6.length ≤ y6 ∧ (y6 : Int) ≤ z ∧ _ := b6
          refine wp_istore_n (loc' := [(2, 69), (0, v), (0, 0), (0, w6)]) dX8_added5_48 rfl (Nat.le_of_ble_eq_true rfl) rfl ?_
          refine wp_iload_n dX8_added5_49 rfl rfl ?_
          refine wp_if_eq (tgt := 59) dX8_added5_50 (by decide) (fun _ => ?_) (fun h => absurd h (by decide))
          refine wp_iload_n dX8_added5_59 rfl rfl ?_
          refine wp_iload_n dX8_added5_60 rfl rfl ?_
          refine wp_isubw dX8_added5_61 ?_
          refine wp_istore_n (loc' := [(2, 69), (0, (wrap (v - w6))), (0, 0), (0, w6)]) dX8_added5_62 rfl (Nat.le_of_ble_eq_true rfl) rfl ?_
          refine wp_goto (tgt := 5) dX8_added5_63 (by decide) ?_
          have eo : opS (lxT f z x) = -13 := (if_neg t1).trans (if_pos t4)
          have ee : gL f z opS P (m + 1) x ce vl = pbd (P (lxN f z x)) (fun y c' v' => gL f z opS P m y (ce ++ c' ++ [opS (lxT f z x)]) (fun e => jn (opS (lxT f z x)) (vl e) (v' e))) := if_neg (by rw [eo]; decide)
          rw [ee, r6] at k
          have hv2 : (wrap (v - w6)) = jn (opS (lxT f z x)) (vl e) (v6 e) := by
            rw [eo, ← hv, ← e6, jn13]
          have hg := X5.2.2 (by omega)
          exact ih y6 _ (fun e => jn (opS (lxT f z x)) (vl e) (v6 e)) _ _ _ _ Q (by omega) J6 B6 hv2 (fun M9 w9 q9 => k M9 w9 ⟨(F6).tr q9.1, q9.2⟩)
      · refine wp_if_eq (tgt := 66) dX8_added5_20 (by decide) (fun _ => ?_) (fun h => absurd h (by decide))
        refine wp_iload_n dX8_added5_66 rfl rfl ?_
        refine wp_iret rfl dX8_added5_67 ?_
        have ee : gL f z opS P (m + 1) x ce vl = .inr (x, ce, vl) := if_pos (show opS (lxT f z x) = 0 from (if_neg t1).trans (if_neg t4))
        rw [ee] at k
        exact k _ _ ⟨Fr.rf, hJ, hv⟩
set_option maxRecDepth 20000 in
set_option maxHeartbeats 4000000 in
theorem cm_added5 {l : Launch} {g : Gw} {n : Nat} (hn : 90 ≤ n) {t : Nat} {f : Nat → Int} {z : Int} {e : Int → Int} {B : Nat} (hB8 : 12 ≤ B) (hB : BT f z) {o : Int} {P : Nat → PR} (hs : CMm l g n t f z e m_X8_term5 [(9, 0)] B o P) (hq : ∀ x : Nat, (x : Int) ≤ z → PQ z x (P x)) : CMm l g n t f z e m_X8_added5 [(9, 0), (9, 0), (9, 0)] (B + 1) o (gBn f z opS 160 P) := by
  intro d M0 Q x hd hJ hx k
  have hz1 := hJ.1.2.2.2.2.2.1
  refine wp_aload_n dX8_added5_0 rfl rfl ?_
  refine wp_callV0 (d' := d - 1) cv_RX8_236 69 rfl [] [] rfl rfl (Or.inl ⟨_, _, rfl, by decide, rfl, by omega, by omega⟩) (by omega) (Nat.le_of_ble_eq_true rfl) dX8_added5_1 rfl (Nat.le_of_ble_eq_true rfl) (by omega) (loc1 := [(2, 69), (9, 0)]) rfl ?_
  refine hs _ _ _ _ (by omega) hJ hx (fun M1 w1 q1 => ?_)
  obtain ⟨f1, q1⟩ := q1
  have F1 := ((Fr.rf : Fr VMr M0 M0)).tr f1
  have b1 := hq _ hx
  generalize r1 : P x = u1 at q1 b1
  rcases u1 with p1 | ⟨y1, c1, v1⟩
  · have D1 : DJm M1 t f z p1 o e := q1
    refine wp_istore_n (loc' := [(2, 69), (0, w1), (9, 0), (9, 0)]) dX8_added5_4 rfl (Nat.le_of_ble_eq_true rfl) rfl ?_
    have ee : gBn f z opS 160 P x = pbd (P x) (fun y c v => gL f z opS P 160 y c v) := rfl
    rw [ee, r1] at k
    exact lqd_added5 hn (by omega) (D1) (fun M9 w9 f9 d9 => k M9 w9 ⟨(F1).tr f9, d9⟩)
  · obtain ⟨J1, e1⟩ : RJm M1 t f z y1 o e ∧ w1 = v1 e := q1
    obtain ⟨b1, B1, _⟩ : x + c1.length ≤ y1 ∧ (y1 : Int) ≤ z ∧ _ := b1
    refine wp_istore_n (loc' := [(2, 69), (0, w1), (9, 0), (9, 0)]) dX8_added5_4 rfl (Nat.le_of_ble_eq_true rfl) rfl ?_
    have ee : gBn f z opS 160 P x = pbd (P x) (fun y c v => gL f z opS P 160 y c v) := rfl
    rw [ee, r1] at k
    exact lq_added5 hn hB8 hB hs hq hd 160 y1 c1 v1 w1 _ _ _ Q (by omega) J1 B1 e1 (fun M9 w9 q9 => k M9 w9 ⟨(F1).tr q9.1, q9.2⟩)
set_option maxRecDepth 20000 in
set_option maxHeartbeats 4000000 in
theorem lq_both5 {l : Launch} {g : Gw} {n : Nat} (hn : 90 ≤ n) {t : Nat} {f : Nat → Int} {z : Int} {e : Int → Int} {B : Nat} (hB8 : 12 ≤ B) (hB : BT f z) {o : Int} {P : Nat → PR} (hs : CMm l g n t f z e m_X8_not5 [(9, 0), (9, 0), (9, 0)] B o P) (hq : ∀ x : Nat, (x : Int) ≤ z → PQ z x (P x)) {d : Nat} (hd : B + 1 ≤ d) : ∀ (m x : Nat) (ce : List Int) (vl : Vl) (v : Int) (u2 : Wd) (M0 : Mm) (Q : Option Wd → Mm → Prop), z ≤ (x : Int) + m → RJm M0 t f z x o e → (x : Int) ≤ z → v = vl e → (∀ M' w, PoM M0 t f z o e (gL f z opA P m x ce vl) M' w → Q (some (0, w)) M') → Wp l g d 0 0 n m_X8_both5 5 [] [(2, 69), (0, v), u2] M0 Q := by
  intro m
  induction m with
  | zero =>
    intro x ce vl v u2 M0 Q hm hJ hx hv k
    refine wp_aload_n dX8_both5_5 rfl rfl ?_
    refine wp_bipush dX8_both5_6 (by decide) (by decide) ?_
    refine wp_bipush dX8_both5_8 (by decide) (by decide) ?_
    refine wp_bipush dX8_both5_10 (by decide) (by decide) ?_
    refine wp_iconst dX8_both5_12 (by decide) ?_
    refine wp_iconst dX8_both5_13 (by decide) ?_
    refine wp_iconst dX8_both5_14 (by decide) ?_
    refine wp_iconst dX8_both5_15 (by decide) ?_
    refine wp_iconst dX8_both5_16 (by decide) ?_
    refine wp_callV0 (d' := d - 1) cv_RX8_200 69 rfl [(0, 97), (0, 110), (0, 100), (0, 0), (0, 0), (0, 0), (0, 0), (0, 0)] [] rfl rfl (Or.inl ⟨_, _, rfl, by decide, rfl, by omega, by omega⟩) (by omega) (Nat.le_of_ble_eq_true rfl) dX8_both5_17 rfl (Nat.le_of_ble_eq_true rfl) (by omega) (loc1 := [(2, 69), (0, 97), (0, 110), (0, 100), (0, 0), (0, 0), (0, 0), (0, 0), (0, 0)]) rfl ?_
    refine sp_isWm_4 hn (by omega) hJ hx (fun t1 => absurd t1 (by rw [lxT_end (by omega)]; decide)) (fun t1 => ?_)
    refine wp_if_eq (tgt := 49) dX8_both5_20 (by decide) (fun _ => ?_) (fun h => absurd h (by decide))
    refine wp_iload_n dX8_both5_49 rfl rfl ?_
    refine wp_iret rfl dX8_both5_50 ?_
    exact k _ _ ⟨Fr.rf, hJ, hv⟩
  | succ m ih =>
    intro x ce vl v u2 M0 Q hm hJ hx hv k
    refine wp_aload_n dX8_both5_5 rfl rfl ?_
    refine wp_bipush dX8_both5_6 (by decide) (by decide) ?_
    refine wp_bipush dX8_both5_8 (by decide) (by decide) ?_
    refine wp_bipush dX8_both5_10 (by decide) (by decide) ?_
    refine wp_iconst dX8_both5_12 (by decide) ?_
    refine wp_iconst dX8_both5_13 (by decide) ?_
    refine wp_iconst dX8_both5_14 (by decide) ?_
    refine wp_iconst dX8_both5_15 (by decide) ?_
    refine wp_iconst dX8_both5_16 (by decide) ?_
    refine wp_callV0 (d' := d - 1) cv_RX8_200 69 rfl [(0, 97), (0, 110), (0, 100), (0, 0), (0, 0), (0, 0), (0, 0), (0, 0)] [] rfl rfl (Or.inl ⟨_, _, rfl, by decide, rfl, by omega, by omega⟩) (by omega) (Nat.le_of_ble_eq_true rfl) dX8_both5_17 rfl (Nat.le_of_ble_eq_true rfl) (by omega) (loc1 := [(2, 69), (0, 97), (0, 110), (0, 100), (0, 0), (0, 0), (0, 0), (0, 0), (0, 0)]) rfl ?_
    refine sp_isWm_4 hn (by omega) hJ hx (fun t1 => ?_) (fun t1 => ?_)
    · refine wp_if_eq (tgt := 49) dX8_both5_20 (by decide) (fun h => absurd h (by decide)) (fun _ => ?_)
      refine wp_aload_n dX8_both5_23 rfl rfl ?_
      refine wp_callV0 (d' := d - 1) cv_RX8_197 69 rfl [] [] rfl rfl (Or.inl ⟨_, _, rfl, by decide, rfl, by omega, by omega⟩) (by omega) (Nat.le_of_ble_eq_true rfl) dX8_both5_24 rfl (Nat.le_of_ble_eq_true rfl) (by omega) (loc1 := [(2, 69), (9, 0), (9, 0)]) rfl ?_
      refine sp_next hn (by omega) hB (hJ).1 ((hJ).2.1.2.1 ((hJ).2.1.2.2.ne4 (by omega))) (lxN_le hx).1 (fun M2 f2 l2 => ?_)
      have J2 := (hJ).step f2 l2
      have F2 := ((Fr.rf : Fr VMr M0 M0)).tr (f2.mono VM1.r)
      have X2 := lxN_le (f := f) hx
      have Y2 := lxA_le (f := f) hx
      refine wp_aload_n dX8_both5_27 rfl rfl ?_
      refine wp_callV0 (d' := d - 1) cv_RX8_246 69 rfl [] [] rfl rfl (Or.inl ⟨_, _, rfl, by decide, rfl, by omega, by omega⟩) (by omega) (Nat.le_of_ble_eq_true rfl) dX8_both5_28 rfl (Nat.le_of_ble_eq_true rfl) (by omega) (loc1 := [(2, 69), (9, 0), (9, 0), (9, 0)]) rfl ?_
      refine hs _ _ _ _ (by omega) J2 X2.1 (fun M3 w3 q3 => ?_)
      obtain ⟨f3, q3⟩ := q3
      have F3 := (F2).tr f3
      have b3 := hq _ X2.1
      generalize r3 : P (lxN f z x) = u3 at q3 b3
      rcases u3 with p3 | ⟨y3, c3, v3⟩
      · have D3 : DJm M3 t f z p3 o e := q3
        refine wp_istore_n (loc' := [(2, 69), (0, v), (0, w3)]) dX8_both5_31 rfl (Nat.le_of_ble_eq_true rfl) rfl ?_
        refine wp_iload_n dX8_both5_32 rfl rfl ?_
        refine wp_if_eq (tgt := 44) dX8_both5_33 (by decide) (fun h33 => ?_) (fun h33 => ?_)
        · refine wp_iconst dX8_both5_44 (by decide) ?_
          refine wp_istore_n (loc' := [(2, 69), (0, 0), (0, w3)]) dX8_both5_45 rfl (Nat.le_of_ble_eq_true rfl) rfl ?_
          refine wp_goto (tgt := 5) dX8_both5_46 (by decide) ?_
          have eo : opA (lxT f z x) = -8 := if_pos t1
          have ee : gL f z opA P (m + 1) x ce vl = pbd (P (lxN f z x)) (fun y c' v' => gL f z opA P m y (ce ++ c' ++ [opA (lxT f z x)]) (fun e => jn (opA (lxT f z x)) (vl e) (v' e))) := if_neg (by rw [eo]; decide)
          rw [ee, r3] at k
          exact lqd_both5 hn (by omega) (D3) (fun M9 w9 f9 d9 => k M9 w9 ⟨(F3).tr f9, d9⟩)
        · refine wp_iload_n dX8_both5_36 rfl rfl ?_
          refine wp_if_eq (tgt := 44) dX8_both5_37 (by decide) (fun h37 => ?_) (fun h37 => ?_)
          · refine wp_iconst dX8_both5_44 (by decide) ?_
            refine wp_istore_n (loc' := [(2, 69), (0, 0), (0, w3)]) dX8_both5_45 rfl (Nat.le_of_ble_eq_true rfl) rfl ?_
            refine wp_goto (tgt := 5) dX8_both5_46 (by decide) ?_
            have eo : opA (lxT f z x) = -8 := if_pos t1
            have ee : gL f z opA P (m + 1) x ce vl = pbd (P (lxN f z x)) (fun y c' v' => gL f z opA P m y (ce ++ c' ++ [opA (lxT f z x)]) (fun e => jn (opA (lxT f z x)) (vl e) (v' e))) := if_neg (by rw [eo]; decide)
            rw [ee, r3] at k
            exact lqd_both5 hn (by omega) (D3) (fun M9 w9 f9 d9 => k M9 w9 ⟨(F3).tr f9, d9⟩)
          · refine wp_iconst dX8_both5_40 (by decide) ?_
            refine wp_goto (tgt := 45) dX8_both5_41 (by decide) ?_
            refine wp_istore_n (loc' := [(2, 69), (0, 1), (0, w3)]) dX8_both5_45 rfl (Nat.le_of_ble_eq_true rfl) rfl ?_
            refine wp_goto (tgt := 5) dX8_both5_46 (by decide) ?_
            have eo : opA (lxT f z x) = -8 := if_pos t1
            have ee : gL f z opA P (m + 1) x ce vl = pbd (P (lxN f z x)) (fun y c' v' => gL f z opA P m y (ce ++ c' ++ [opA (lxT f z x)]) (fun e => jn (opA (lxT f z x)) (vl e) (v' e))) := if_neg (by rw [eo]; decide)
            rw [ee, r3] at k
            exact lqd_both5 hn (by omega) (D3) (fun M9 w9 f9 d9 => k M9 w9 ⟨(F3).tr f9, d9⟩)
      · obtain ⟨J3, e3⟩ : RJm M3 t f z y3 o e ∧ w3 = v3 e := q3
        obtain ⟨b3, B3, _⟩ : (lxN f z x) + c3.length ≤ y3 ∧ (y3 : Int) ≤ z ∧ _ := b3
        refine wp_istore_n (loc' := [(2, 69), (0, v), (0, w3)]) dX8_both5_31 rfl (Nat.le_of_ble_eq_true rfl) rfl ?_
        refine wp_iload_n dX8_both5_32 rfl rfl ?_
        refine wp_if_eq (tgt := 44) dX8_both5_33 (by decide) (fun h33 => ?_) (fun h33 => ?_)
        · refine wp_iconst dX8_both5_44 (by decide) ?_
          refine wp_istore_n (loc' := [(2, 69), (0, 0), (0, w3)]) dX8_both5_45 rfl (Nat.le_of_ble_eq_true rfl) rfl ?_
          refine wp_goto (tgt := 5) dX8_both5_46 (by decide) ?_
          have eo : opA (lxT f z x) = -8 := if_pos t1
          have ee : gL f z opA P (m + 1) x ce vl = pbd (P (lxN f z x)) (fun y c' v' => gL f z opA P m y (ce ++ c' ++ [opA (lxT f z x)]) (fun e => jn (opA (lxT f z x)) (vl e) (v' e))) := if_neg (by rw [eo]; decide)
          rw [ee, r3] at k
          have hv2 : 0 = jn (opA (lxT f z x)) (vl e) (v3 e) := by
            rw [eo, ← hv, ← e3, jn8]
            first | exact (if_pos (by omega)).symm | exact (if_neg (by omega)).symm
          have hg := X2.2.2 (by omega)
          exact ih y3 _ (fun e => jn (opA (lxT f z x)) (vl e) (v3 e)) _ _ _ Q (by omega) J3 B3 hv2 (fun M9 w9 q9 => k M9 w9 ⟨(F3).tr q9.1, q9.2⟩)
        · refine wp_iload_n dX8_both5_36 rfl rfl ?_
          refine wp_if_eq (tgt := 44) dX8_both5_37 (by decide) (fun h37 => ?_) (fun h37 => ?_)
          · refine wp_iconst dX8_both5_44 (by decide) ?_
            refine wp_istore_n (loc' := [(2, 69), (0, 0), (0, w3)]) dX8_both5_45 rfl (Nat.le_of_ble_eq_true rfl) rfl ?_
            refine wp_goto (tgt := 5) dX8_both5_46 (by decide) ?_
            have eo : opA (lxT f z x) = -8 := if_pos t1
            have ee : gL f z opA P (m + 1) x ce vl = pbd (P (lxN f z x)) (fun y c' v' => gL f z opA P m y (ce ++ c' ++ [opA (lxT f z x)]) (fun e => jn (opA (lxT f z x)) (vl e) (v' e))) := if_neg (by rw [eo]; decide)
            rw [ee, r3] at k
            have hv2 : 0 = jn (opA (lxT f z x)) (vl e) (v3 e) := by
              rw [eo, ← hv, ← e3, jn8]
              first | exact (if_pos (by omega)).symm | exact (if_neg (by omega)).symm
            have hg := X2.2.2 (by omega)
            exact ih y3 _ (fun e => jn (opA (lxT f z x)) (vl e) (v3 e)) _ _ _ Q (by omega) J3 B3 hv2 (fun M9 w9 q9 => k M9 w9 ⟨(F3).tr q9.1, q9.2⟩)
          · refine wp_iconst dX8_both5_40 (by decide) ?_
            refine wp_goto (tgt := 45) dX8_both5_41 (by decide) ?_
            refine wp_istore_n (loc' := [(2, 69), (0, 1), (0, w3)]) dX8_both5_45 rfl (Nat.le_of_ble_eq_true rfl) rfl ?_
            refine wp_goto (tgt := 5) dX8_both5_46 (by decide) ?_
            have eo : opA (lxT f z x) = -8 := if_pos t1
            have ee : gL f z opA P (m + 1) x ce vl = pbd (P (lxN f z x)) (fun y c' v' => gL f z opA P m y (ce ++ c' ++ [opA (lxT f z x)]) (fun e => jn (opA (lxT f z x)) (vl e) (v' e))) := if_neg (by rw [eo]; decide)
            rw [ee, r3] at k
            have hv2 : 1 = jn (opA (lxT f z x)) (vl e) (v3 e) := by
              rw [eo, ← hv, ← e3, jn8]
              first | exact (if_pos (by omega)).symm | exact (if_neg (by omega)).symm
            have hg := X2.2.2 (by omega)
            exact ih y3 _ (fun e => jn (opA (lxT f z x)) (vl e) (v3 e)) _ _ _ Q (by omega) J3 B3 hv2 (fun M9 w9 q9 => k M9 w9 ⟨(F3).tr q9.1, q9.2⟩)
    · refine wp_if_eq (tgt := 49) dX8_both5_20 (by decide) (fun _ => ?_) (fun h => absurd h (by decide))
      refine wp_iload_n dX8_both5_49 rfl rfl ?_
      refine wp_iret rfl dX8_both5_50 ?_
      have ee : gL f z opA P (m + 1) x ce vl = .inr (x, ce, vl) := if_pos (show opA (lxT f z x) = 0 from if_neg t1)
      rw [ee] at k
      exact k _ _ ⟨Fr.rf, hJ, hv⟩
set_option maxRecDepth 20000 in
set_option maxHeartbeats 4000000 in
theorem cm_both5 {l : Launch} {g : Gw} {n : Nat} (hn : 90 ≤ n) {t : Nat} {f : Nat → Int} {z : Int} {e : Int → Int} {B : Nat} (hB8 : 12 ≤ B) (hB : BT f z) {o : Int} {P : Nat → PR} (hs : CMm l g n t f z e m_X8_not5 [(9, 0), (9, 0), (9, 0)] B o P) (hq : ∀ x : Nat, (x : Int) ≤ z → PQ z x (P x)) : CMm l g n t f z e m_X8_both5 [(9, 0), (9, 0)] (B + 1) o (gBn f z opA 160 P) := by
  intro d M0 Q x hd hJ hx k
  have hz1 := hJ.1.2.2.2.2.2.1
  refine wp_aload_n dX8_both5_0 rfl rfl ?_
  refine wp_callV0 (d' := d - 1) cv_RX8_246 69 rfl [] [] rfl rfl (Or.inl ⟨_, _, rfl, by decide, rfl, by omega, by omega⟩) (by omega) (Nat.le_of_ble_eq_true rfl) dX8_both5_1 rfl (Nat.le_of_ble_eq_true rfl) (by omega) (loc1 := [(2, 69), (9, 0), (9, 0), (9, 0)]) rfl ?_
  refine hs _ _ _ _ (by omega) hJ hx (fun M1 w1 q1 => ?_)
  obtain ⟨f1, q1⟩ := q1
  have F1 := ((Fr.rf : Fr VMr M0 M0)).tr f1
  have b1 := hq _ hx
  generalize r1 : P x = u1 at q1 b1
  rcases u1 with p1 | ⟨y1, c1, v1⟩
  · have D1 : DJm M1 t f z p1 o e := q1
    refine wp_istore_n (loc' := [(2, 69), (0, w1), (9, 0)]) dX8_both5_4 rfl (Nat.le_of_ble_eq_true rfl) rfl ?_
    have ee : gBn f z opA 160 P x = pbd (P x) (fun y c v => gL f z opA P 160 y c v) := rfl
    rw [ee, r1] at k
    exact lqd_both5 hn (by omega) (D1) (fun M9 w9 f9 d9 => k M9 w9 ⟨(F1).tr f9, d9⟩)
  · obtain ⟨J1, e1⟩ : RJm M1 t f z y1 o e ∧ w1 = v1 e := q1
    obtain ⟨b1, B1, _⟩ : x + c1.length ≤ y1 ∧ (y1 : Int) ≤ z ∧ _ := b1
    refine wp_istore_n (loc' := [(2, 69), (0, w1), (9, 0)]) dX8_both5_4 rfl (Nat.le_of_ble_eq_true rfl) rfl ?_
    have ee : gBn f z opA 160 P x = pbd (P x) (fun y c v => gL f z opA P 160 y c v) := rfl
    rw [ee, r1] at k
    exact lq_both5 hn hB8 hB hs hq hd 160 y1 c1 v1 w1 _ _ Q (by omega) J1 B1 e1 (fun M9 w9 q9 => k M9 w9 ⟨(F1).tr q9.1, q9.2⟩)
set_option maxRecDepth 20000 in
set_option maxHeartbeats 4000000 in
theorem lq_either5 {l : Launch} {g : Gw} {n : Nat} (hn : 90 ≤ n) {t : Nat} {f : Nat → Int} {z : Int} {e : Int → Int} {B : Nat} (hB8 : 12 ≤ B) (hB : BT f z) {o : Int} {P : Nat → PR} (hs : CMm l g n t f z e m_X8_both5 [(9, 0), (9, 0)] B o P) (hq : ∀ x : Nat, (x : Int) ≤ z → PQ z x (P x)) {d : Nat} (hd : B + 1 ≤ d) : ∀ (m x : Nat) (ce : List Int) (vl : Vl) (v : Int) (u2 : Wd) (M0 : Mm) (Q : Option Wd → Mm → Prop), z ≤ (x : Int) + m → RJm M0 t f z x o e → (x : Int) ≤ z → v = vl e → (∀ M' w, PoM M0 t f z o e (gL f z opO P m x ce vl) M' w → Q (some (0, w)) M') → Wp l g d 0 0 n m_X8_either5 5 [] [(2, 69), (0, v), u2] M0 Q := by
  intro m
  induction m with
  | zero =>
    intro x ce vl v u2 M0 Q hm hJ hx hv k
    refine wp_aload_n dX8_either5_5 rfl rfl ?_
    refine wp_bipush dX8_either5_6 (by decide) (by decide) ?_
    refine wp_bipush dX8_either5_8 (by decide) (by decide) ?_
    refine wp_iconst dX8_either5_10 (by decide) ?_
    refine wp_iconst dX8_either5_11 (by decide) ?_
    refine wp_iconst dX8_either5_12 (by decide) ?_
    refine wp_iconst dX8_either5_13 (by decide) ?_
    refine wp_iconst dX8_either5_14 (by decide) ?_
    refine wp_iconst dX8_either5_15 (by decide) ?_
    refine wp_callV0 (d' := d - 1) cv_RX8_200 69 rfl [(0, 111), (0, 114), (0, 0), (0, 0), (0, 0), (0, 0), (0, 0), (0, 0)] [] rfl rfl (Or.inl ⟨_, _, rfl, by decide, rfl, by omega, by omega⟩) (by omega) (Nat.le_of_ble_eq_true rfl) dX8_either5_16 rfl (Nat.le_of_ble_eq_true rfl) (by omega) (loc1 := [(2, 69), (0, 111), (0, 114), (0, 0), (0, 0), (0, 0), (0, 0), (0, 0), (0, 0)]) rfl ?_
    refine sp_isWm_3 hn (by omega) hJ hx (fun t1 => absurd t1 (by rw [lxT_end (by omega)]; decide)) (fun t1 => ?_)
    refine wp_if_eq (tgt := 48) dX8_either5_19 (by decide) (fun _ => ?_) (fun h => absurd h (by decide))
    refine wp_iload_n dX8_either5_48 rfl rfl ?_
    refine wp_iret rfl dX8_either5_49 ?_
    exact k _ _ ⟨Fr.rf, hJ, hv⟩
  | succ m ih =>
    intro x ce vl v u2 M0 Q hm hJ hx hv k
    refine wp_aload_n dX8_either5_5 rfl rfl ?_
    refine wp_bipush dX8_either5_6 (by decide) (by decide) ?_
    refine wp_bipush dX8_either5_8 (by decide) (by decide) ?_
    refine wp_iconst dX8_either5_10 (by decide) ?_
    refine wp_iconst dX8_either5_11 (by decide) ?_
    refine wp_iconst dX8_either5_12 (by decide) ?_
    refine wp_iconst dX8_either5_13 (by decide) ?_
    refine wp_iconst dX8_either5_14 (by decide) ?_
    refine wp_iconst dX8_either5_15 (by decide) ?_
    refine wp_callV0 (d' := d - 1) cv_RX8_200 69 rfl [(0, 111), (0, 114), (0, 0), (0, 0), (0, 0), (0, 0), (0, 0), (0, 0)] [] rfl rfl (Or.inl ⟨_, _, rfl, by decide, rfl, by omega, by omega⟩) (by omega) (Nat.le_of_ble_eq_true rfl) dX8_either5_16 rfl (Nat.le_of_ble_eq_true rfl) (by omega) (loc1 := [(2, 69), (0, 111), (0, 114), (0, 0), (0, 0), (0, 0), (0, 0), (0, 0), (0, 0)]) rfl ?_
    refine sp_isWm_3 hn (by omega) hJ hx (fun t1 => ?_) (fun t1 => ?_)
    · refine wp_if_eq (tgt := 48) dX8_either5_19 (by decide) (fun h => absurd h (by decide)) (fun _ => ?_)
      refine wp_aload_n dX8_either5_22 rfl rfl ?_
      refine wp_callV0 (d' := d - 1) cv_RX8_197 69 rfl [] [] rfl rfl (Or.inl ⟨_, _, rfl, by decide, rfl, by omega, by omega⟩) (by omega) (Nat.le_of_ble_eq_true rfl) dX8_either5_23 rfl (Nat.le_of_ble_eq_true rfl) (by omega) (loc1 := [(2, 69), (9, 0), (9, 0)]) rfl ?_
      refine sp_next hn (by omega) hB (hJ).1 ((hJ).2.1.2.1 ((hJ).2.1.2.2.ne4 (by omega))) (lxN_le hx).1 (fun M2 f2 l2 => ?_)
      have J2 := (hJ).step f2 l2
      have F2 := ((Fr.rf : Fr VMr M0 M0)).tr (f2.mono VM1.r)
      have X2 := lxN_le (f := f) hx
      have Y2 := lxA_le (f := f) hx
      refine wp_aload_n dX8_either5_26 rfl rfl ?_
      refine wp_callV0 (d' := d - 1) cv_RX8_249 69 rfl [] [] rfl rfl (Or.inl ⟨_, _, rfl, by decide, rfl, by omega, by omega⟩) (by omega) (Nat.le_of_ble_eq_true rfl) dX8_either5_27 rfl (Nat.le_of_ble_eq_true rfl) (by omega) (loc1 := [(2, 69), (9, 0), (9, 0)]) rfl ?_
      refine hs _ _ _ _ (by omega) J2 X2.1 (fun M3 w3 q3 => ?_)
      obtain ⟨f3, q3⟩ := q3
      have F3 := (F2).tr f3
      have b3 := hq _ X2.1
      generalize r3 : P (lxN f z x) = u3 at q3 b3
      rcases u3 with p3 | ⟨y3, c3, v3⟩
      · have D3 : DJm M3 t f z p3 o e := q3
        refine wp_istore_n (loc' := [(2, 69), (0, v), (0, w3)]) dX8_either5_30 rfl (Nat.le_of_ble_eq_true rfl) rfl ?_
        refine wp_iload_n dX8_either5_31 rfl rfl ?_
        refine wp_if_ne (tgt := 39) dX8_either5_32 (by decide) (fun h32 => ?_) (fun h32 => ?_)
        · refine wp_iconst dX8_either5_39 (by decide) ?_
          refine wp_goto (tgt := 44) dX8_either5_40 (by decide) ?_
          refine wp_istore_n (loc' := [(2, 69), (0, 1), (0, w3)]) dX8_either5_44 rfl (Nat.le_of_ble_eq_true rfl) rfl ?_
          refine wp_goto (tgt := 5) dX8_either5_45 (by decide) ?_
          have eo : opO (lxT f z x) = -7 := if_pos t1
          have ee : gL f z opO P (m + 1) x ce vl = pbd (P (lxN f z x)) (fun y c' v' => gL f z opO P m y (ce ++ c' ++ [opO (lxT f z x)]) (fun e => jn (opO (lxT f z x)) (vl e) (v' e))) := if_neg (by rw [eo]; decide)
          rw [ee, r3] at k
          exact lqd_either5 hn (by omega) (D3) (fun M9 w9 f9 d9 => k M9 w9 ⟨(F3).tr f9, d9⟩)
        · refine wp_iload_n dX8_either5_35 rfl rfl ?_
          refine wp_if_eq (tgt := 43) dX8_either5_36 (by decide) (fun h36 => ?_) (fun h36 => ?_)
          · refine wp_iconst dX8_either5_43 (by decide) ?_
            refine wp_istore_n (loc' := [(2, 69), (0, 0), (0, w3)]) dX8_either5_44 rfl (Nat.le_of_ble_eq_true rfl) rfl ?_
            refine wp_goto (tgt := 5) dX8_either5_45 (by decide) ?_
            have eo : opO (lxT f z x) = -7 := if_pos t1
            have ee : gL f z opO P (m + 1) x ce vl = pbd (P (lxN f z x)) (fun y c' v' => gL f z opO P m y (ce ++ c' ++ [opO (lxT f z x)]) (fun e => jn (opO (lxT f z x)) (vl e) (v' e))) := if_neg (by rw [eo]; decide)
            rw [ee, r3] at k
            exact lqd_either5 hn (by omega) (D3) (fun M9 w9 f9 d9 => k M9 w9 ⟨(F3).tr f9, d9⟩)
          · refine wp_iconst dX8_either5_39 (by decide) ?_
            refine wp_goto (tgt := 44) dX8_either5_40 (by decide) ?_
            refine wp_istore_n (loc' := [(2, 69), (0, 1), (0, w3)]) dX8_either5_44 rfl (Nat.le_of_ble_eq_true rfl) rfl ?_
            refine wp_goto (tgt := 5) dX8_either5_45 (by decide) ?_
            have eo : opO (lxT f z x) = -7 := if_pos t1
            have ee : gL f z opO P (m + 1) x ce vl = pbd (P (lxN f z x)) (fun y c' v' => gL f z opO P m y (ce ++ c' ++ [opO (lxT f z x)]) (fun e => jn (opO (lxT f z x)) (vl e) (v' e))) := if_neg (by rw [eo]; decide)
            rw [ee, r3] at k
            exact lqd_either5 hn (by omega) (D3) (fun M9 w9 f9 d9 => k M9 w9 ⟨(F3).tr f9, d9⟩)
      · obtain ⟨J3, e3⟩ : RJm M3 t f z y3 o e ∧ w3 = v3 e := q3
        obtain ⟨b3, B3, _⟩ : (lxN f z x) + c3.length ≤ y3 ∧ (y3 : Int) ≤ z ∧ _ := b3
        refine wp_istore_n (loc' := [(2, 69), (0, v), (0, w3)]) dX8_either5_30 rfl (Nat.le_of_ble_eq_true rfl) rfl ?_
        refine wp_iload_n dX8_either5_31 rfl rfl ?_
        refine wp_if_ne (tgt := 39) dX8_either5_32 (by decide) (fun h32 => ?_) (fun h32 => ?_)
        · refine wp_iconst dX8_either5_39 (by decide) ?_
          refine wp_goto (tgt := 44) dX8_either5_40 (by decide) ?_
          refine wp_istore_n (loc' := [(2, 69), (0, 1), (0, w3)]) dX8_either5_44 rfl (Nat.le_of_ble_eq_true rfl) rfl ?_
          refine wp_goto (tgt := 5) dX8_either5_45 (by decide) ?_
          have eo : opO (lxT f z x) = -7 := if_pos t1
          have ee : gL f z opO P (m + 1) x ce vl = pbd (P (lxN f z x)) (fun y c' v' => gL f z opO P m y (ce ++ c' ++ [opO (lxT f z x)]) (fun e => jn (opO (lxT f z x)) (vl e) (v' e))) := if_neg (by rw [eo]; decide)
          rw [ee, r3] at k
          have hv2 : 1 = jn (opO (lxT f z x)) (vl e) (v3 e) := by
            rw [eo, ← hv, ← e3, jn7]
            first | exact (if_pos (by omega)).symm | exact (if_neg (by omega)).symm
          have hg := X2.2.2 (by omega)
          exact ih y3 _ (fun e => jn (opO (lxT f z x)) (vl e) (v3 e)) _ _ _ Q (by omega) J3 B3 hv2 (fun M9 w9 q9 => k M9 w9 ⟨(F3).tr q9.1, q9.2⟩)
        · refine wp_iload_n dX8_either5_35 rfl rfl ?_
          refine wp_if_eq (tgt := 43) dX8_either5_36 (by decide) (fun h36 => ?_) (fun h36 => ?_)
          · refine wp_iconst dX8_either5_43 (by decide) ?_
            refine wp_istore_n (loc' := [(2, 69), (0, 0), (0, w3)]) dX8_either5_44 rfl (Nat.le_of_ble_eq_true rfl) rfl ?_
            refine wp_goto (tgt := 5) dX8_either5_45 (by decide) ?_
            have eo : opO (lxT f z x) = -7 := if_pos t1
            have ee : gL f z opO P (m + 1) x ce vl = pbd (P (lxN f z x)) (fun y c' v' => gL f z opO P m y (ce ++ c' ++ [opO (lxT f z x)]) (fun e => jn (opO (lxT f z x)) (vl e) (v' e))) := if_neg (by rw [eo]; decide)
            rw [ee, r3] at k
            have hv2 : 0 = jn (opO (lxT f z x)) (vl e) (v3 e) := by
              rw [eo, ← hv, ← e3, jn7]
              first | exact (if_pos (by omega)).symm | exact (if_neg (by omega)).symm
            have hg := X2.2.2 (by omega)
            exact ih y3 _ (fun e => jn (opO (lxT f z x)) (vl e) (v3 e)) _ _ _ Q (by omega) J3 B3 hv2 (fun M9 w9 q9 => k M9 w9 ⟨(F3).tr q9.1, q9.2⟩)
          · refine wp_iconst dX8_either5_39 (by decide) ?_
            refine wp_goto (tgt := 44) dX8_either5_40 (by decide) ?_
            refine wp_istore_n (loc' := [(2, 69), (0, 1), (0, w3)]) dX8_either5_44 rfl (Nat.le_of_ble_eq_true rfl) rfl ?_
            refine wp_goto (tgt := 5) dX8_either5_45 (by decide) ?_
            have eo : opO (lxT f z x) = -7 := if_pos t1
            have ee : gL f z opO P (m + 1) x ce vl = pbd (P (lxN f z x)) (fun y c' v' => gL f z opO P m y (ce ++ c' ++ [opO (lxT f z x)]) (fun e => jn (opO (lxT f z x)) (vl e) (v' e))) := if_neg (by rw [eo]; decide)
            rw [ee, r3] at k
            have hv2 : 1 = jn (opO (lxT f z x)) (vl e) (v3 e) := by
              rw [eo, ← hv, ← e3, jn7]
              first | exact (if_pos (by omega)).symm | exact (if_neg (by omega)).symm
            have hg := X2.2.2 (by omega)
            exact ih y3 _ (fun e => jn (opO (lxT f z x)) (vl e) (v3 e)) _ _ _ Q (by omega) J3 B3 hv2 (fun M9 w9 q9 => k M9 w9 ⟨(F3).tr q9.1, q9.2⟩)
    · refine wp_if_eq (tgt := 48) dX8_either5_19 (by decide) (fun _ => ?_) (fun h => absurd h (by decide))
      refine wp_iload_n dX8_either5_48 rfl rfl ?_
      refine wp_iret rfl dX8_either5_49 ?_
      have ee : gL f z opO P (m + 1) x ce vl = .inr (x, ce, vl) := if_pos (show opO (lxT f z x) = 0 from if_neg t1)
      rw [ee] at k
      exact k _ _ ⟨Fr.rf, hJ, hv⟩
set_option maxRecDepth 20000 in
set_option maxHeartbeats 4000000 in
theorem cm_either5 {l : Launch} {g : Gw} {n : Nat} (hn : 90 ≤ n) {t : Nat} {f : Nat → Int} {z : Int} {e : Int → Int} {B : Nat} (hB8 : 12 ≤ B) (hB : BT f z) {o : Int} {P : Nat → PR} (hs : CMm l g n t f z e m_X8_both5 [(9, 0), (9, 0)] B o P) (hq : ∀ x : Nat, (x : Int) ≤ z → PQ z x (P x)) : CMm l g n t f z e m_X8_either5 [(9, 0), (9, 0)] (B + 1) o (gBn f z opO 160 P) := by
  intro d M0 Q x hd hJ hx k
  have hz1 := hJ.1.2.2.2.2.2.1
  refine wp_aload_n dX8_either5_0 rfl rfl ?_
  refine wp_callV0 (d' := d - 1) cv_RX8_249 69 rfl [] [] rfl rfl (Or.inl ⟨_, _, rfl, by decide, rfl, by omega, by omega⟩) (by omega) (Nat.le_of_ble_eq_true rfl) dX8_either5_1 rfl (Nat.le_of_ble_eq_true rfl) (by omega) (loc1 := [(2, 69), (9, 0), (9, 0)]) rfl ?_
  refine hs _ _ _ _ (by omega) hJ hx (fun M1 w1 q1 => ?_)
  obtain ⟨f1, q1⟩ := q1
  have F1 := ((Fr.rf : Fr VMr M0 M0)).tr f1
  have b1 := hq _ hx
  generalize r1 : P x = u1 at q1 b1
  rcases u1 with p1 | ⟨y1, c1, v1⟩
  · have D1 : DJm M1 t f z p1 o e := q1
    refine wp_istore_n (loc' := [(2, 69), (0, w1), (9, 0)]) dX8_either5_4 rfl (Nat.le_of_ble_eq_true rfl) rfl ?_
    have ee : gBn f z opO 160 P x = pbd (P x) (fun y c v => gL f z opO P 160 y c v) := rfl
    rw [ee, r1] at k
    exact lqd_either5 hn (by omega) (D1) (fun M9 w9 f9 d9 => k M9 w9 ⟨(F1).tr f9, d9⟩)
  · obtain ⟨J1, e1⟩ : RJm M1 t f z y1 o e ∧ w1 = v1 e := q1
    obtain ⟨b1, B1, _⟩ : x + c1.length ≤ y1 ∧ (y1 : Int) ≤ z ∧ _ := b1
    refine wp_istore_n (loc' := [(2, 69), (0, w1), (9, 0)]) dX8_either5_4 rfl (Nat.le_of_ble_eq_true rfl) rfl ?_
    have ee : gBn f z opO 160 P x = pbd (P x) (fun y c v => gL f z opO P 160 y c v) := rfl
    rw [ee, r1] at k
    exact lq_either5 hn hB8 hB hs hq hd 160 y1 c1 v1 w1 _ _ Q (by omega) J1 B1 e1 (fun M9 w9 q9 => k M9 w9 ⟨(F1).tr q9.1, q9.2⟩)
set_option maxRecDepth 20000 in
set_option maxHeartbeats 4000000 in
theorem cm_atom5 {l : Launch} {g : Gw} {n : Nat} (hn : 90 ≤ n) {t : Nat} {f : Nat → Int} {z : Int} {e : Int → Int} {B : Nat} (hB8 : 12 ≤ B) (hB : BT f z) {o : Int} (ho : o = 5) : CMm l g n t f z e m_X8_atom5 [(9, 0)] (B + 1) o (oneP f z none) := by
  intro d M0 Q x hd hJ hx k
  have hz1 := hJ.1.2.2.2.2.2.1
  refine wp_iconst dX8_atom5_0 (by decide) ?_
  refine wp_istore_n (loc' := [(2, 69), (0, 0)]) dX8_atom5_1 rfl (Nat.le_of_ble_eq_true rfl) rfl ?_
  refine wp_aload_n dX8_atom5_2 rfl rfl ?_
  refine wp_bipush dX8_atom5_3 (by decide) (by decide) ?_
  refine wp_callV0 (d' := d - 1) cv_RX8_222 69 rfl [(0, 45)] [] rfl rfl (Or.inl ⟨_, _, rfl, by decide, rfl, by omega, by omega⟩) (by omega) (Nat.le_of_ble_eq_true rfl) dX8_atom5_5 rfl (Nat.le_of_ble_eq_true rfl) (by omega) (loc1 := [(2, 69), (0, 45)]) rfl ?_
  refine sp_isSg hn hJ 45 (by decide) (fun t1 => ?_) (fun t1 => ?_)
  · have g1 := ((hJ).2.1.2.2.sgn (s := 45) (by decide)).mpr t1
    refine wp_if_eq (tgt := 19) dX8_atom5_8 (by decide) (fun h => absurd h (by decide)) (fun _ => ?_)
    refine wp_aload_n dX8_atom5_11 rfl rfl ?_
    refine wp_callV0 (d' := d - 1) cv_RX8_225 69 rfl [] [] rfl rfl (Or.inl ⟨_, _, rfl, by decide, rfl, by omega, by omega⟩) (by omega) (Nat.le_of_ble_eq_true rfl) dX8_atom5_12 rfl (Nat.le_of_ble_eq_true rfl) (by omega) (loc1 := [(2, 69)]) rfl ?_
    refine sp_opensmF hn (by omega) hJ ho (fun M2 D2 f2 => ?_)
    have F2 := ((Fr.rf : Fr VMr M0 M0)).tr f2
    refine wp_pop dX8_atom5_15 (Or.inl rfl) ?_
    refine wp_goto (tgt := 102) dX8_atom5_16 (by decide) ?_
    refine wp_iload_n dX8_atom5_102 rfl rfl ?_
    refine wp_iret rfl dX8_atom5_103 ?_
    have ee : oneP f z none x = .inl (lxA f z x) := (if_neg (by omega)).trans ((if_neg (by omega)).trans (if_pos t1))
    rw [ee] at k
    exact k _ _ ⟨F2, D2⟩
  · refine wp_if_eq (tgt := 19) dX8_atom5_8 (by decide) (fun _ => ?_) (fun h => absurd h (by decide))
    refine wp_aload_n dX8_atom5_19 rfl rfl ?_
    refine wp_bipush dX8_atom5_20 (by decide) (by decide) ?_
    refine wp_callV0 (d' := d - 1) cv_RX8_222 69 rfl [(0, 40)] [] rfl rfl (Or.inl ⟨_, _, rfl, by decide, rfl, by omega, by omega⟩) (by omega) (Nat.le_of_ble_eq_true rfl) dX8_atom5_22 rfl (Nat.le_of_ble_eq_true rfl) (by omega) (loc1 := [(2, 69), (0, 40)]) rfl ?_
    refine sp_isSg hn hJ 40 (by decide) (fun t3 => ?_) (fun t3 => ?_)
    · have g3 := ((hJ).2.1.2.2.sgn (s := 40) (by decide)).mpr t3
      refine wp_if_eq (tgt := 36) dX8_atom5_25 (by decide) (fun h => absurd h (by decide)) (fun _ => ?_)
      refine wp_aload_n dX8_atom5_28 rfl rfl ?_
      refine wp_callV0 (d' := d - 1) cv_RX8_225 69 rfl [] [] rfl rfl (Or.inl ⟨_, _, rfl, by decide, rfl, by omega, by omega⟩) (by omega) (Nat.le_of_ble_eq_true rfl) dX8_atom5_29 rfl (Nat.le_of_ble_eq_true rfl) (by omega) (loc1 := [(2, 69)]) rfl ?_
      refine sp_opensmF hn (by omega) hJ ho (fun M4 D4 f4 => ?_)
      have F4 := ((Fr.rf : Fr VMr M0 M0)).tr f4
      refine wp_pop dX8_atom5_32 (Or.inl rfl) ?_
      refine wp_goto (tgt := 102) dX8_atom5_33 (by decide) ?_
      refine wp_iload_n dX8_atom5_102 rfl rfl ?_
      refine wp_iret rfl dX8_atom5_103 ?_
      have ee : oneP f z none x = .inl (lxA f z x) := (if_neg (by omega)).trans ((if_neg (by omega)).trans ((if_neg t1).trans (if_pos t3)))
      rw [ee] at k
      exact k _ _ ⟨F4, D4⟩
    · refine wp_if_eq (tgt := 36) dX8_atom5_25 (by decide) (fun _ => ?_) (fun h => absurd h (by decide))
      refine wp_aload_n dX8_atom5_36 rfl rfl ?_
      refine wp_get 69 rfl fl_RX8_181 rfl ⟨by omega, by omega⟩ dX8_atom5_37 rfl (v := 0) (hJ.2.2.2.1) ?_
      refine wp_if_ne (tgt := 64) dX8_atom5_40 (by decide) (fun h => absurd h (by decide)) (fun _ => ?_)
      refine wp_aload_n dX8_atom5_43 rfl rfl ?_
      refine wp_get 69 rfl fl_RX8_164 rfl ⟨by omega, by omega⟩ dX8_atom5_44 rfl (v := (M0 69 22)) (rfl) ?_
      refine wp_iconst dX8_atom5_47 (by decide) ?_
      refine wp_icmp_ne (tgt := 64) dX8_atom5_48 (by decide) (fun h48 => ?_) (fun h48 => ?_)
      · refine wp_aload_n dX8_atom5_64 rfl rfl ?_
        refine wp_get 69 rfl fl_RX8_181 rfl ⟨by omega, by omega⟩ dX8_atom5_65 rfl (v := 0) (hJ.2.2.2.1) ?_
        refine wp_if_ne (tgt := 98) dX8_atom5_68 (by decide) (fun h => absurd h (by decide)) (fun _ => ?_)
        refine wp_aload_n dX8_atom5_71 rfl rfl ?_
        refine wp_get 69 rfl fl_RX8_164 rfl ⟨by omega, by omega⟩ dX8_atom5_72 rfl (v := (M0 69 22)) (rfl) ?_
        refine wp_iconst dX8_atom5_75 (by decide) ?_
        refine wp_icmp_ne (tgt := 98) dX8_atom5_76 (by decide) (fun h76 => ?_) (fun h76 => ?_)
        · refine wp_aload_n dX8_atom5_98 rfl rfl ?_
          refine wp_callV0 (d' := d - 1) cv_RX8_194 69 rfl [] [] rfl rfl (Or.inl ⟨_, _, rfl, by decide, rfl, by omega, by omega⟩) (by omega) (Nat.le_of_ble_eq_true rfl) dX8_atom5_99 rfl (Nat.le_of_ble_eq_true rfl) (by omega) (loc1 := [(2, 69)]) rfl ?_
          refine sp_failm hn hJ (fun M5 D5 f5 => ?_)
          have F5 := ((Fr.rf : Fr VMr M0 M0)).tr f5
          refine wp_iload_n dX8_atom5_102 rfl rfl ?_
          refine wp_iret rfl dX8_atom5_103 ?_
          have two := hJ.2.1.2.2.two
          have t2 : lxT f z x ≠ 2 := fun h => h48 (two.1.mpr h)
          have hw := hJ.2.1.2.2.word h76
          have ee : oneP f z none x = .inl (lxA f z x) := (if_neg t2).trans ((if_neg (by omega)).trans ((if_neg t1).trans (if_neg t3)))
          rw [ee] at k
          exact k _ _ ⟨F5, D5⟩
        · refine wp_aload_n dX8_atom5_79 rfl rfl ?_
          refine wp_callV0 (d' := d - 1) cv_RX8_229 69 rfl [] [] rfl rfl (Or.inl ⟨_, _, rfl, by decide, rfl, by omega, by omega⟩) (by omega) (Nat.le_of_ble_eq_true rfl) dX8_atom5_80 rfl (Nat.le_of_ble_eq_true rfl) (by omega) (loc1 := [(2, 69)]) rfl ?_
          refine sp_name hn (by omega) hJ hx (fun hnm => ?_) (fun hnm M6 D6 f6 => ?_)
          · refine wp_istore_n (loc' := [(2, 69), (0, (e (-1 - (lxT f z x - 262))))]) dX8_atom5_83 rfl (Nat.le_of_ble_eq_true rfl) rfl ?_
            refine wp_aload_n dX8_atom5_84 rfl rfl ?_
            refine wp_get 69 rfl fl_RX8_181 rfl ⟨by omega, by omega⟩ dX8_atom5_85 rfl (v := 0) (hJ.2.2.2.1) ?_
            refine wp_if_ne (tgt := 102) dX8_atom5_88 (by decide) (fun h => absurd h (by decide)) (fun _ => ?_)
            refine wp_aload_n dX8_atom5_91 rfl rfl ?_
            refine wp_callV0 (d' := d - 1) cv_RX8_197 69 rfl [] [] rfl rfl (Or.inl ⟨_, _, rfl, by decide, rfl, by omega, by omega⟩) (by omega) (Nat.le_of_ble_eq_true rfl) dX8_atom5_92 rfl (Nat.le_of_ble_eq_true rfl) (by omega) (loc1 := [(2, 69), (9, 0), (9, 0)]) rfl ?_
            refine sp_next hn (by omega) hB (hJ).1 ((hJ).2.1.2.1 ((hJ).2.1.2.2.ne4 (by omega))) (lxN_le hx).1 (fun M7 f7 l7 => ?_)
            have J7 := (hJ).step f7 l7
            have F7 := ((Fr.rf : Fr VMr M0 M0)).tr (f7.mono VM1.r)
            have X7 := lxN_le (f := f) hx
            have Y7 := lxA_le (f := f) hx
            refine wp_goto (tgt := 102) dX8_atom5_95 (by decide) ?_
            refine wp_iload_n dX8_atom5_102 rfl rfl ?_
            refine wp_iret rfl dX8_atom5_103 ?_
            have two := hJ.2.1.2.2.two
            have t2 : lxT f z x ≠ 2 := fun h => h48 (two.1.mpr h)
            have ee : oneP f z none x = .inr (lxN f z x, [-1 - (lxT f z x - 262)], fun e => e (-1 - (lxT f z x - 262))) := (if_neg t2).trans (if_pos hnm)
            rw [ee] at k
            exact k _ _ ⟨F7, J7, rfl⟩
          · have F6 := ((Fr.rf : Fr VMr M0 M0)).tr f6
            refine wp_istore_n (loc' := [(2, 69), (0, 0)]) dX8_atom5_83 rfl (Nat.le_of_ble_eq_true rfl) rfl ?_
            refine wp_aload_n dX8_atom5_84 rfl rfl ?_
            refine wp_get 69 rfl fl_RX8_181 rfl ⟨by omega, by omega⟩ dX8_atom5_85 rfl (v := 1) (D6.2.2.1) ?_
            refine wp_if_ne (tgt := 102) dX8_atom5_88 (by decide) (fun _ => ?_) (fun h => absurd h (by decide))
            refine wp_iload_n dX8_atom5_102 rfl rfl ?_
            refine wp_iret rfl dX8_atom5_103 ?_
            have two := hJ.2.1.2.2.two
            have t2 : lxT f z x ≠ 2 := fun h => h48 (two.1.mpr h)
            have ee : oneP f z none x = .inl (lxA f z x) := (if_neg t2).trans ((if_neg hnm).trans ((if_neg t1).trans (if_neg t3)))
            rw [ee] at k
            exact k _ _ ⟨F6, D6⟩
      · refine wp_aload_n dX8_atom5_51 rfl rfl ?_
        refine wp_get 69 rfl fl_RX8_175 rfl ⟨by omega, by omega⟩ dX8_atom5_52 rfl (v := (M0 69 24)) (rfl) ?_
        refine wp_l2i dX8_atom5_55 ?_
        refine wp_istore_n (loc' := [(2, 69), (0, (wrap (M0 69 24)))]) dX8_atom5_56 rfl (Nat.le_of_ble_eq_true rfl) rfl ?_
        refine wp_aload_n dX8_atom5_57 rfl rfl ?_
        refine wp_callV0 (d' := d - 1) cv_RX8_197 69 rfl [] [] rfl rfl (Or.inl ⟨_, _, rfl, by decide, rfl, by omega, by omega⟩) (by omega) (Nat.le_of_ble_eq_true rfl) dX8_atom5_58 rfl (Nat.le_of_ble_eq_true rfl) (by omega) (loc1 := [(2, 69), (9, 0), (9, 0)]) rfl ?_
        have t2 := hJ.2.1.2.2.two.1.mp h48
        refine sp_next hn (by omega) hB (hJ).1 ((hJ).2.1.2.1 ((hJ).2.1.2.2.ne4 (by omega))) (lxN_le hx).1 (fun M8 f8 l8 => ?_)
        have J8 := (hJ).step f8 l8
        have F8 := ((Fr.rf : Fr VMr M0 M0)).tr (f8.mono VM1.r)
        have X8 := lxN_le (f := f) hx
        have Y8 := lxA_le (f := f) hx
        refine wp_goto (tgt := 102) dX8_atom5_61 (by decide) ?_
        refine wp_iload_n dX8_atom5_102 rfl rfl ?_
        refine wp_iret rfl dX8_atom5_103 ?_
        have two := hJ.2.1.2.2.two
        have t2 := two.1.mp h48
        have ee : oneP f z none x = .inr (lxN f z x, [lxV f z x], fun _ => lxV f z x) := if_pos t2
        rw [ee] at k
        have hv := lxV_r hx t2
        exact k _ _ ⟨F8, J8, by rw [two.2 h48, wrap_id (by omega)]⟩
set_option maxRecDepth 20000 in
set_option maxHeartbeats 4000000 in
theorem cm_not5 {l : Launch} {g : Gw} {n : Nat} (hn : 90 ≤ n) {t : Nat} {f : Nat → Int} {z : Int} {e : Int → Int} {B : Nat} (hB8 : 12 ≤ B) (hB : BT f z) {o : Int} (ho : o = 5) {P : Nat → PR} (hqc : ∀ x : Nat, (x : Int) ≤ z → PQ z x (P x)) (hc : CMm l g n t f z e m_X8_added5 [(9, 0), (9, 0), (9, 0)] B o P) : CMm l g n t f z e m_X8_not5 [(9, 0), (9, 0), (9, 0)] (B + 1) o (notP f z none (gBn f z opC 1 P)) := by
  intro d M0 Q x hd hJ hx k
  have hz1 := hJ.1.2.2.2.2.2.1
  refine wp_aload_n dX8_not5_0 rfl rfl ?_
  refine wp_bipush dX8_not5_1 (by decide) (by decide) ?_
  refine wp_bipush dX8_not5_3 (by decide) (by decide) ?_
  refine wp_bipush dX8_not5_5 (by decide) (by decide) ?_
  refine wp_iconst dX8_not5_7 (by decide) ?_
  refine wp_iconst dX8_not5_8 (by decide) ?_
  refine wp_iconst dX8_not5_9 (by decide) ?_
  refine wp_iconst dX8_not5_10 (by decide) ?_
  refine wp_iconst dX8_not5_11 (by decide) ?_
  refine wp_callV0 (d' := d - 1) cv_RX8_200 69 rfl [(0, 110), (0, 111), (0, 116), (0, 0), (0, 0), (0, 0), (0, 0), (0, 0)] [] rfl rfl (Or.inl ⟨_, _, rfl, by decide, rfl, by omega, by omega⟩) (by omega) (Nat.le_of_ble_eq_true rfl) dX8_not5_12 rfl (Nat.le_of_ble_eq_true rfl) (by omega) (loc1 := [(2, 69), (0, 110), (0, 111), (0, 116), (0, 0), (0, 0), (0, 0), (0, 0), (0, 0)]) rfl ?_
  refine sp_isWm_5 hn (by omega) hJ hx (fun t1 => ?_) (fun t1 => ?_)
  · refine wp_if_eq (tgt := 25) dX8_not5_15 (by decide) (fun h => absurd h (by decide)) (fun _ => ?_)
    refine wp_aload_n dX8_not5_18 rfl rfl ?_
    refine wp_callV0 (d' := d - 1) cv_RX8_225 69 rfl [] [] rfl rfl (Or.inl ⟨_, _, rfl, by decide, rfl, by omega, by omega⟩) (by omega) (Nat.le_of_ble_eq_true rfl) dX8_not5_19 rfl (Nat.le_of_ble_eq_true rfl) (by omega) (loc1 := [(2, 69)]) rfl ?_
    refine sp_opensmF hn (by omega) hJ ho (fun M2 D2 f2 => ?_)
    have F2 := ((Fr.rf : Fr VMr M0 M0)).tr f2
    refine wp_pop dX8_not5_22 (Or.inl rfl) ?_
    refine wp_iconst dX8_not5_23 (by decide) ?_
    refine wp_iret rfl dX8_not5_24 ?_
    have ee : notP f z none (gBn f z opC 1 P) x = .inl (lxA f z x) := if_pos t1
    rw [ee] at k
    exact k _ _ ⟨F2, D2⟩
  · refine wp_if_eq (tgt := 25) dX8_not5_15 (by decide) (fun _ => ?_) (fun h => absurd h (by decide))
    refine wp_aload_n dX8_not5_25 rfl rfl ?_
    refine wp_callV0 (d' := d - 1) cv_RX8_241 69 rfl [] [] rfl rfl (Or.inl ⟨_, _, rfl, by decide, rfl, by omega, by omega⟩) (by omega) (Nat.le_of_ble_eq_true rfl) dX8_not5_26 rfl (Nat.le_of_ble_eq_true rfl) (by omega) (loc1 := [(2, 69), (9, 0), (9, 0), (9, 0)]) rfl ?_
    refine hc _ _ _ _ (by omega) hJ hx (fun M3 w3 q3 => ?_)
    obtain ⟨f3, q3⟩ := q3
    have F3 := ((Fr.rf : Fr VMr M0 M0)).tr f3
    have b3 := hqc _ hx
    generalize r3 : P x = u3 at q3 b3
    rcases u3 with p3 | ⟨y3, c3, v3⟩
    · have D3 : DJm M3 t f z p3 o e := q3
      refine wp_istore_n (loc' := [(2, 69), (0, w3), (9, 0), (9, 0)]) dX8_not5_29 rfl (Nat.le_of_ble_eq_true rfl) rfl ?_
      refine wp_aload_n dX8_not5_30 rfl rfl ?_
      refine wp_bipush dX8_not5_31 (by decide) (by decide) ?_
      refine wp_callV0 (d' := d - 1) cv_RX8_222 69 rfl [(0, 60)] [] rfl rfl (Or.inl ⟨_, _, rfl, by decide, rfl, by omega, by omega⟩) (by omega) (Nat.le_of_ble_eq_true rfl) dX8_not5_33 rfl (Nat.le_of_ble_eq_true rfl) (by omega) (loc1 := [(2, 69), (0, 60)]) rfl ?_
      refine sp_isSd hn D3 ?_
      refine wp_if_ne (tgt := 50) dX8_not5_36 (by decide) (fun h => absurd h (by decide)) (fun _ => ?_)
      refine wp_aload_n dX8_not5_39 rfl rfl ?_
      refine wp_bipush dX8_not5_40 (by decide) (by decide) ?_
      refine wp_callV0 (d' := d - 1) cv_RX8_222 69 rfl [(0, 61)] [] rfl rfl (Or.inl ⟨_, _, rfl, by decide, rfl, by omega, by omega⟩) (by omega) (Nat.le_of_ble_eq_true rfl) dX8_not5_42 rfl (Nat.le_of_ble_eq_true rfl) (by omega) (loc1 := [(2, 69), (0, 61)]) rfl ?_
      refine sp_isSd hn D3 ?_
      refine wp_if_ne (tgt := 50) dX8_not5_45 (by decide) (fun h => absurd h (by decide)) (fun _ => ?_)
      refine wp_iload_n dX8_not5_48 rfl rfl ?_
      refine wp_iret rfl dX8_not5_49 ?_
      have ee : notP f z none (gBn f z opC 1 P) x = pbd (P x) (fun y c v => gL f z opC P 1 y c v) := if_neg t1
      rw [ee, r3] at k
      exact k _ _ ⟨F3, D3⟩
    · obtain ⟨J3, e3⟩ : RJm M3 t f z y3 o e ∧ w3 = v3 e := q3
      obtain ⟨b3, B3, _⟩ : x + c3.length ≤ y3 ∧ (y3 : Int) ≤ z ∧ _ := b3
      refine wp_istore_n (loc' := [(2, 69), (0, w3), (9, 0), (9, 0)]) dX8_not5_29 rfl (Nat.le_of_ble_eq_true rfl) rfl ?_
      refine wp_aload_n dX8_not5_30 rfl rfl ?_
      refine wp_bipush dX8_not5_31 (by decide) (by decide) ?_
      refine wp_callV0 (d' := d - 1) cv_RX8_222 69 rfl [(0, 60)] [] rfl rfl (Or.inl ⟨_, _, rfl, by decide, rfl, by omega, by omega⟩) (by omega) (Nat.le_of_ble_eq_true rfl) dX8_not5_33 rfl (Nat.le_of_ble_eq_true rfl) (by omega) (loc1 := [(2, 69), (0, 60)]) rfl ?_
      refine sp_isSg hn J3 60 (by decide) (fun t6 => ?_) (fun t6 => ?_)
      · have g6 := ((J3).2.1.2.2.sgn (s := 60) (by decide)).mpr t6
        refine wp_if_ne (tgt := 50) dX8_not5_36 (by decide) (fun _ => ?_) (fun h => absurd h (by decide))
        refine wp_aload_n dX8_not5_50 rfl rfl ?_
        refine wp_get 69 rfl fl_RX8_175 rfl ⟨by omega, by omega⟩ dX8_not5_51 rfl (v := 60) (g6.2) ?_
        refine wp_ldc2 (x := 60) dX8_not5_54 kl_RX8_244 (by decide) (wr_l (by omega)) ?_
        refine wp_lcmp dX8_not5_57 ?_
        change Wp _ _ _ _ _ _ _ _ ((0, 0) :: _) _ _ _
        refine wp_if_ne (tgt := 65) dX8_not5_58 (by decide) (fun h => absurd h (by decide)) (fun _ => ?_)
        refine wp_iconst dX8_not5_61 (by decide) ?_
        refine wp_goto (tgt := 66) dX8_not5_62 (by decide) ?_
        refine wp_istore_n (loc' := [(2, 69), (0, w3), (0, 1), (9, 0)]) dX8_not5_66 rfl (Nat.le_of_ble_eq_true rfl) rfl ?_
        refine wp_aload_n dX8_not5_67 rfl rfl ?_
        refine wp_callV0 (d' := d - 1) cv_RX8_197 69 rfl [] [] rfl rfl (Or.inl ⟨_, _, rfl, by decide, rfl, by omega, by omega⟩) (by omega) (Nat.le_of_ble_eq_true rfl) dX8_not5_68 rfl (Nat.le_of_ble_eq_true rfl) (by omega) (loc1 := [(2, 69), (9, 0), (9, 0)]) rfl ?_
        refine sp_next hn (by omega) hB (J3).1 ((J3).2.1.2.1 ((J3).2.1.2.2.ne4 (by omega))) (lxN_le B3).1 (fun M7 f7 l7 => ?_)
        have J7 := (J3).step f7 l7
        have F7 := (F3).tr (f7.mono VM1.r)
        have X7 := lxN_le (f := f) B3
        have Y7 := lxA_le (f := f) B3
        refine wp_aload_n dX8_not5_71 rfl rfl ?_
        refine wp_callV0 (d' := d - 1) cv_RX8_241 69 rfl [] [] rfl rfl (Or.inl ⟨_, _, rfl, by decide, rfl, by omega, by omega⟩) (by omega) (Nat.le_of_ble_eq_true rfl) dX8_not5_72 rfl (Nat.le_of_ble_eq_true rfl) (by omega) (loc1 := [(2, 69), (9, 0), (9, 0), (9, 0)]) rfl ?_
        refine hc _ _ _ _ (by omega) J7 X7.1 (fun M8 w8 q8 => ?_)
        obtain ⟨f8, q8⟩ := q8
        have F8 := (F7).tr f8
        have b8 := hqc _ X7.1
        generalize r8 : P (lxN f z y3) = u8 at q8 b8
        rcases u8 with p8 | ⟨y8, c8, v8⟩
        · have D8 : DJm M8 t f z p8 o e := q8
          refine wp_istore_n (loc' := [(2, 69), (0, w3), (0, 1), (0, w8)]) dX8_not5_75 rfl (Nat.le_of_ble_eq_true rfl) rfl ?_
          refine wp_iload_n dX8_not5_76 rfl rfl ?_
          refine wp_if_eq (tgt := 88) dX8_not5_77 (by decide) (fun h => absurd h (by decide)) (fun _ => ?_)
          refine wp_iload_n dX8_not5_80 rfl rfl ?_
          refine wp_iload_n dX8_not5_81 rfl rfl ?_
          refine wp_icmp_ge (tgt := 97) dX8_not5_82 (by decide) (fun h82 => ?_) (fun h82 => ?_)
          · refine wp_iconst dX8_not5_97 (by decide) ?_
            refine wp_iret rfl dX8_not5_98 ?_
            have ee : notP f z none (gBn f z opC 1 P) x = pbd (P x) (fun y c v => gL f z opC P 1 y c v) := if_neg t1
            rw [ee, r3] at k
            have eo : opC (lxT f z y3) = -10 := if_pos t6
            have e2 : gL f z opC P 1 y3 c3 v3 = pbd (P (lxN f z y3)) (fun y c' v' => gL f z opC P 0 y (c3 ++ c' ++ [opC (lxT f z y3)]) (fun e => jn (opC (lxT f z y3)) (v3 e) (v' e))) := if_neg (by rw [eo]; decide)
            replace k : ∀ M' w, PoM M0 t f z o e (gL f z opC P 1 y3 c3 v3) M' w → Q (some (0, w)) M' := k
            rw [e2, r8] at k
            exact k _ _ ⟨F8, D8⟩
          · refine wp_goto (tgt := 93) dX8_not5_85 (by decide) ?_
            refine wp_iconst dX8_not5_93 (by decide) ?_
            refine wp_goto (tgt := 98) dX8_not5_94 (by decide) ?_
            refine wp_iret rfl dX8_not5_98 ?_
            have ee : notP f z none (gBn f z opC 1 P) x = pbd (P x) (fun y c v => gL f z opC P 1 y c v) := if_neg t1
            rw [ee, r3] at k
            have eo : opC (lxT f z y3) = -10 := if_pos t6
            have e2 : gL f z opC P 1 y3 c3 v3 = pbd (P (lxN f z y3)) (fun y c' v' => gL f z opC P 0 y (c3 ++ c' ++ [opC (lxT f z y3)]) (fun e => jn (opC (lxT f z y3)) (v3 e) (v' e))) := if_neg (by rw [eo]; decide)
            replace k : ∀ M' w, PoM M0 t f z o e (gL f z opC P 1 y3 c3 v3) M' w → Q (some (0, w)) M' := k
            rw [e2, r8] at k
            exact k _ _ ⟨F8, D8⟩
        · obtain ⟨J8, e8⟩ : RJm M8 t f z y8 o e ∧ w8 = v8 e := q8
          obtain ⟨b8, B8, _⟩ : (lxN f z y3) + c8.length ≤ y8 ∧ (y8 : Int) ≤ z ∧ _ := b8
          refine wp_istore_n (loc' := [(2, 69), (0, w3), (0, 1), (0, w8)]) dX8_not5_75 rfl (Nat.le_of_ble_eq_true rfl) rfl ?_
          refine wp_iload_n dX8_not5_76 rfl rfl ?_
          refine wp_if_eq (tgt := 88) dX8_not5_77 (by decide) (fun h => absurd h (by decide)) (fun _ => ?_)
          refine wp_iload_n dX8_not5_80 rfl rfl ?_
          refine wp_iload_n dX8_not5_81 rfl rfl ?_
          refine wp_icmp_ge (tgt := 97) dX8_not5_82 (by decide) (fun h82 => ?_) (fun h82 => ?_)
          · refine wp_iconst dX8_not5_97 (by decide) ?_
            refine wp_iret rfl dX8_not5_98 ?_
            have ee : notP f z none (gBn f z opC 1 P) x = pbd (P x) (fun y c v => gL f z opC P 1 y c v) := if_neg t1
            rw [ee, r3] at k
            have eo : opC (lxT f z y3) = -10 := if_pos t6
            have e2 : gL f z opC P 1 y3 c3 v3 = pbd (P (lxN f z y3)) (fun y c' v' => gL f z opC P 0 y (c3 ++ c' ++ [opC (lxT f z y3)]) (fun e => jn (opC (lxT f z y3)) (v3 e) (v' e))) := if_neg (by rw [eo]; decide)
            replace k : ∀ M' w, PoM M0 t f z o e (gL f z opC P 1 y3 c3 v3) M' w → Q (some (0, w)) M' := k
            rw [e2, r8] at k
            refine k _ _ ⟨F8, J8, ?_⟩
            show _ = jn (opC (lxT f z y3)) (v3 e) (v8 e)
            rw [eo, ← e3, ← e8, jn10]
            first | exact (if_pos (by omega)).symm | exact (if_neg (by omega)).symm
          · refine wp_goto (tgt := 93) dX8_not5_85 (by decide) ?_
            refine wp_iconst dX8_not5_93 (by decide) ?_
            refine wp_goto (tgt := 98) dX8_not5_94 (by decide) ?_
            refine wp_iret rfl dX8_not5_98 ?_
            have ee : notP f z none (gBn f z opC 1 P) x = pbd (P x) (fun y c v => gL f z opC P 1 y c v) := if_neg t1
            rw [ee, r3] at k
            have eo : opC (lxT f z y3) = -10 := if_pos t6
            have e2 : gL f z opC P 1 y3 c3 v3 = pbd (P (lxN f z y3)) (fun y c' v' => gL f z opC P 0 y (c3 ++ c' ++ [opC (lxT f z y3)]) (fun e => jn (opC (lxT f z y3)) (v3 e) (v' e))) := if_neg (by rw [eo]; decide)
            replace k : ∀ M' w, PoM M0 t f z o e (gL f z opC P 1 y3 c3 v3) M' w → Q (some (0, w)) M' := k
            rw [e2, r8] at k
            refine k _ _ ⟨F8, J8, ?_⟩
            show _ = jn (opC (lxT f z y3)) (v3 e) (v8 e)
            rw [eo, ← e3, ← e8, jn10]
            first | exact (if_pos (by omega)).symm | exact (if_neg (by omega)).symm
      · refine wp_if_ne (tgt := 50) dX8_not5_36 (by decide) (fun h => absurd h (by decide)) (fun _ => ?_)
        refine wp_aload_n dX8_not5_39 rfl rfl ?_
        refine wp_bipush dX8_not5_40 (by decide) (by decide) ?_
        refine wp_callV0 (d' := d - 1) cv_RX8_222 69 rfl [(0, 61)] [] rfl rfl (Or.inl ⟨_, _, rfl, by decide, rfl, by omega, by omega⟩) (by omega) (Nat.le_of_ble_eq_true rfl) dX8_not5_42 rfl (Nat.le_of_ble_eq_true rfl) (by omega) (loc1 := [(2, 69), (0, 61)]) rfl ?_
        refine sp_isSg hn J3 61 (by decide) (fun t9 => ?_) (fun t9 => ?_)
        · have g9 := ((J3).2.1.2.2.sgn (s := 61) (by decide)).mpr t9
          refine wp_if_ne (tgt := 50) dX8_not5_45 (by decide) (fun _ => ?_) (fun h => absurd h (by decide))
          refine wp_aload_n dX8_not5_50 rfl rfl ?_
          refine wp_get 69 rfl fl_RX8_175 rfl ⟨by omega, by omega⟩ dX8_not5_51 rfl (v := 61) (g9.2) ?_
          refine wp_ldc2 (x := 60) dX8_not5_54 kl_RX8_244 (by decide) (wr_l (by omega)) ?_
          refine wp_lcmp dX8_not5_57 ?_
          change Wp _ _ _ _ _ _ _ _ ((0, 1) :: _) _ _ _
          refine wp_if_ne (tgt := 65) dX8_not5_58 (by decide) (fun _ => ?_) (fun h => absurd h (by decide))
          refine wp_iconst dX8_not5_65 (by decide) ?_
          refine wp_istore_n (loc' := [(2, 69), (0, w3), (0, 0), (9, 0)]) dX8_not5_66 rfl (Nat.le_of_ble_eq_true rfl) rfl ?_
          refine wp_aload_n dX8_not5_67 rfl rfl ?_
          refine wp_callV0 (d' := d - 1) cv_RX8_197 69 rfl [] [] rfl rfl (Or.inl ⟨_, _, rfl, by decide, rfl, by omega, by omega⟩) (by omega) (Nat.le_of_ble_eq_true rfl) dX8_not5_68 rfl (Nat.le_of_ble_eq_true rfl) (by omega) (loc1 := [(2, 69), (9, 0), (9, 0)]) rfl ?_
          refine sp_next hn (by omega) hB (J3).1 ((J3).2.1.2.1 ((J3).2.1.2.2.ne4 (by omega))) (lxN_le B3).1 (fun M10 f10 l10 => ?_)
          have J10 := (J3).step f10 l10
          have F10 := (F3).tr (f10.mono VM1.r)
          have X10 := lxN_le (f := f) B3
          have Y10 := lxA_le (f := f) B3
          refine wp_aload_n dX8_not5_71 rfl rfl ?_
          refine wp_callV0 (d' := d - 1) cv_RX8_241 69 rfl [] [] rfl rfl (Or.inl ⟨_, _, rfl, by decide, rfl, by omega, by omega⟩) (by omega) (Nat.le_of_ble_eq_true rfl) dX8_not5_72 rfl (Nat.le_of_ble_eq_true rfl) (by omega) (loc1 := [(2, 69), (9, 0), (9, 0), (9, 0)]) rfl ?_
          refine hc _ _ _ _ (by omega) J10 X10.1 (fun M11 w11 q11 => ?_)
          obtain ⟨f11, q11⟩ := q11
          have F11 := (F10).tr f11
          have b11 := hqc _ X10.1
          generalize r11 : P (lxN f z y3) = u11 at q11 b11
          rcases u11 with p11 | ⟨y11, c11, v11⟩
          · have D11 : DJm M11 t f z p11 o e := q11
            refine wp_istore_n (loc' := [(2, 69), (0, w3), (0, 0), (0, w11)]) dX8_not5_75 rfl (Nat.le_of_ble_eq_true rfl) rfl ?_
            refine wp_iload_n dX8_not5_76 rfl rfl ?_
            refine wp_if_eq (tgt := 88) dX8_not5_77 (by decide) (fun _ => ?_) (fun h => absurd h (by decide))
            refine wp_iload_n dX8_not5_88 rfl rfl ?_
            refine wp_iload_n dX8_not5_89 rfl rfl ?_
            refine wp_icmp_ne (tgt := 97) dX8_not5_90 (by decide) (fun h90 => ?_) (fun h90 => ?_)
            · refine wp_iconst dX8_not5_97 (by decide) ?_
              refine wp_iret rfl dX8_not5_98 ?_
              have ee : notP f z none (gBn f z opC 1 P) x = pbd (P x) (fun y c v => gL f z opC P 1 y c v) := if_neg t1
              rw [ee, r3] at k
              have eo : opC (lxT f z y3) = -11 := (if_neg t6).trans (if_pos t9)
              have e2 : gL f z opC P 1 y3 c3 v3 = pbd (P (lxN f z y3)) (fun y c' v' => gL f z opC P 0 y (c3 ++ c' ++ [opC (lxT f z y3)]) (fun e => jn (opC (lxT f z y3)) (v3 e) (v' e))) := if_neg (by rw [eo]; decide)
              replace k : ∀ M' w, PoM M0 t f z o e (gL f z opC P 1 y3 c3 v3) M' w → Q (some (0, w)) M' := k
              rw [e2, r11] at k
              exact k _ _ ⟨F11, D11⟩
            · refine wp_iconst dX8_not5_93 (by decide) ?_
              refine wp_goto (tgt := 98) dX8_not5_94 (by decide) ?_
              refine wp_iret rfl dX8_not5_98 ?_
              have ee : notP f z none (gBn f z opC 1 P) x = pbd (P x) (fun y c v => gL f z opC P 1 y c v) := if_neg t1
              rw [ee, r3] at k
              have eo : opC (lxT f z y3) = -11 := (if_neg t6).trans (if_pos t9)
              have e2 : gL f z opC P 1 y3 c3 v3 = pbd (P (lxN f z y3)) (fun y c' v' => gL f z opC P 0 y (c3 ++ c' ++ [opC (lxT f z y3)]) (fun e => jn (opC (lxT f z y3)) (v3 e) (v' e))) := if_neg (by rw [eo]; decide)
              replace k : ∀ M' w, PoM M0 t f z o e (gL f z opC P 1 y3 c3 v3) M' w → Q (some (0, w)) M' := k
              rw [e2, r11] at k
              exact k _ _ ⟨F11, D11⟩
          · obtain ⟨J11, e11⟩ : RJm M11 t f z y11 o e ∧ w11 = v11 e := q11
            obtain ⟨b11, B11, _⟩ : (lxN f z y3) + c11.length ≤ y11 ∧ (y11 : Int) ≤ z ∧ _ := b11
            refine wp_istore_n (loc' := [(2, 69), (0, w3), (0, 0), (0, w11)]) dX8_not5_75 rfl (Nat.le_of_ble_eq_true rfl) rfl ?_
            refine wp_iload_n dX8_not5_76 rfl rfl ?_
            refine wp_if_eq (tgt := 88) dX8_not5_77 (by decide) (fun _ => ?_) (fun h => absurd h (by decide))
            refine wp_iload_n dX8_not5_88 rfl rfl ?_
            refine wp_iload_n dX8_not5_89 rfl rfl ?_
            refine wp_icmp_ne (tgt := 97) dX8_not5_90 (by decide) (fun h90 => ?_) (fun h90 => ?_)
            · refine wp_iconst dX8_not5_97 (by decide) ?_
              refine wp_iret rfl dX8_not5_98 ?_
              have ee : notP f z none (gBn f z opC 1 P) x = pbd (P x) (fun y c v => gL f z opC P 1 y c v) := if_neg t1
              rw [ee, r3] at k
              have eo : opC (lxT f z y3) = -11 := (if_neg t6).trans (if_pos t9)
              have e2 : gL f z opC P 1 y3 c3 v3 = pbd (P (lxN f z y3)) (fun y c' v' => gL f z opC P 0 y (c3 ++ c' ++ [opC (lxT f z y3)]) (fun e => jn (opC (lxT f z y3)) (v3 e) (v' e))) := if_neg (by rw [eo]; decide)
              replace k : ∀ M' w, PoM M0 t f z o e (gL f z opC P 1 y3 c3 v3) M' w → Q (some (0, w)) M' := k
              rw [e2, r11] at k
              refine k _ _ ⟨F11, J11, ?_⟩
              show _ = jn (opC (lxT f z y3)) (v3 e) (v11 e)
              rw [eo, ← e3, ← e11, jn11]
              first | exact (if_pos (by omega)).symm | exact (if_neg (by omega)).symm
            · refine wp_iconst dX8_not5_93 (by decide) ?_
              refine wp_goto (tgt := 98) dX8_not5_94 (by decide) ?_
              refine wp_iret rfl dX8_not5_98 ?_
              have ee : notP f z none (gBn f z opC 1 P) x = pbd (P x) (fun y c v => gL f z opC P 1 y c v) := if_neg t1
              rw [ee, r3] at k
              have eo : opC (lxT f z y3) = -11 := (if_neg t6).trans (if_pos t9)
              have e2 : gL f z opC P 1 y3 c3 v3 = pbd (P (lxN f z y3)) (fun y c' v' => gL f z opC P 0 y (c3 ++ c' ++ [opC (lxT f z y3)]) (fun e => jn (opC (lxT f z y3)) (v3 e) (v' e))) := if_neg (by rw [eo]; decide)
              replace k : ∀ M' w, PoM M0 t f z o e (gL f z opC P 1 y3 c3 v3) M' w → Q (some (0, w)) M' := k
              rw [e2, r11] at k
              refine k _ _ ⟨F11, J11, ?_⟩
              show _ = jn (opC (lxT f z y3)) (v3 e) (v11 e)
              rw [eo, ← e3, ← e11, jn11]
              first | exact (if_pos (by omega)).symm | exact (if_neg (by omega)).symm
        · refine wp_if_ne (tgt := 50) dX8_not5_45 (by decide) (fun h => absurd h (by decide)) (fun _ => ?_)
          refine wp_iload_n dX8_not5_48 rfl rfl ?_
          refine wp_iret rfl dX8_not5_49 ?_
          have ee : notP f z none (gBn f z opC 1 P) x = pbd (P x) (fun y c v => gL f z opC P 1 y c v) := if_neg t1
          rw [ee, r3] at k
          have e2 : gL f z opC P 1 y3 c3 v3 = .inr (y3, c3, v3) := if_pos (show opC (lxT f z y3) = 0 from (if_neg t6).trans (if_neg t9))
          replace k : ∀ M' w, PoM M0 t f z o e (gL f z opC P 1 y3 c3 v3) M' w → Q (some (0, w)) M' := k
          rw [e2] at k
          exact k _ _ ⟨F3, J3, e3⟩
def LM3 (l : Launch) (g : Gw) (n t : Nat) (f : Nat → Int) (z : Int) (e : Int → Int) (B : Nat) (o : Int) (a b c : Md) (q : P3) : Prop := CMm l g n t f z e a [(9, 0)] B o q.1 ∧ CMm l g n t f z e b [(9, 0), (9, 0), (9, 0)] (B + 3) o q.2.1 ∧ CMm l g n t f z e c [(9, 0), (9, 0)] (B + 5) o q.2.2
theorem cm_lv5 {l : Launch} {g : Gw} {n : Nat} (hn : 90 ≤ n) {t : Nat} {f : Nat → Int} {z : Int} {e : Int → Int} (hB : BT f z) : LM3 l g n t f z e 13 5 m_X8_atom5 m_X8_not5 m_X8_either5 (lv f z 0) := by
  have hq : ∀ q : P3, none = some q → OK3 z q := fun q h => by cases h
  have h1 := cm_atom5 (l := l) (g := g) (t := t) (e := e) hn (B := 12) (by omega) hB (o := 5) rfl
  have q1 := PQ_one (f := f) (z := z) (o := none) hq
  have h2 := cm_term5 hn (by omega) hB h1 q1
  have h3 := cm_added5 hn (by omega) hB h2 (PQ_gB op2T q1)
  have h4 := cm_not5 hn (by omega) hB (o := 5) rfl (PQ_gB op2S (PQ_gB op2T q1)) h3
  have q4 := PQ_not (f := f) (z := z) hq (PQ_cmp (f := f) q1)
  have h5 := cm_both5 hn (by omega) hB h4 q4
  exact ⟨h1, h4, cm_either5 hn (by omega) hB h5 (PQ_gB op2A q4)⟩
theorem cm_lv4 {l : Launch} {g : Gw} {n : Nat} (hn : 90 ≤ n) {t : Nat} {f : Nat → Int} {z : Int} {e : Int → Int} (hB : BT f z) : LM3 l g n t f z e 19 4 m_X8_atom4 m_X8_not4 m_X8_either4 (lv f z 1) := by
  have ih := cm_lv5 (l := l) (g := g) hn (t := t) (e := e) hB
  have hk := OK3_lv (f := f) (z := z) 0
  have hq : ∀ q : P3, some (lv f z 0) = some q → OK3 z q := fun q h => by cases h; exact hk
  have h1 := cm_atom4 (l := l) (g := g) (t := t) (e := e) hn (B := 18) (by omega) hB (o := 4) (by omega) hk (ih.1.up (by omega)) ih.2.2
  have q1 := PQ_one (f := f) (z := z) (o := (some (lv f z 0))) hq
  have h2 := cm_term4 hn (by omega) hB h1 q1
  have h3 := cm_added4 hn (by omega) hB h2 (PQ_gB op2T q1)
  have h4 := cm_not4 hn (by omega) hB (o := 4) (by omega) hk (ih.2.1.up (by omega)) (PQ_gB op2S (PQ_gB op2T q1)) h3
  have q4 := PQ_not (f := f) (z := z) hq (PQ_cmp (f := f) q1)
  have h5 := cm_both4 hn (by omega) hB h4 q4
  exact ⟨h1, h4, cm_either4 hn (by omega) hB h5 (PQ_gB op2A q4)⟩
theorem cm_lv3 {l : Launch} {g : Gw} {n : Nat} (hn : 90 ≤ n) {t : Nat} {f : Nat → Int} {z : Int} {e : Int → Int} (hB : BT f z) : LM3 l g n t f z e 25 3 m_X8_atom3 m_X8_not3 m_X8_either3 (lv f z 2) := by
  have ih := cm_lv4 (l := l) (g := g) hn (t := t) (e := e) hB
  have hk := OK3_lv (f := f) (z := z) 1
  have hq : ∀ q : P3, some (lv f z 1) = some q → OK3 z q := fun q h => by cases h; exact hk
  have h1 := cm_atom3 (l := l) (g := g) (t := t) (e := e) hn (B := 24) (by omega) hB (o := 3) (by omega) hk (ih.1.up (by omega)) ih.2.2
  have q1 := PQ_one (f := f) (z := z) (o := (some (lv f z 1))) hq
  have h2 := cm_term3 hn (by omega) hB h1 q1
  have h3 := cm_added3 hn (by omega) hB h2 (PQ_gB op2T q1)
  have h4 := cm_not3 hn (by omega) hB (o := 3) (by omega) hk (ih.2.1.up (by omega)) (PQ_gB op2S (PQ_gB op2T q1)) h3
  have q4 := PQ_not (f := f) (z := z) hq (PQ_cmp (f := f) q1)
  have h5 := cm_both3 hn (by omega) hB h4 q4
  exact ⟨h1, h4, cm_either3 hn (by omega) hB h5 (PQ_gB op2A q4)⟩
theorem cm_lv2 {l : Launch} {g : Gw} {n : Nat} (hn : 90 ≤ n) {t : Nat} {f : Nat → Int} {z : Int} {e : Int → Int} (hB : BT f z) : LM3 l g n t f z e 31 2 m_X8_atom2 m_X8_not2 m_X8_either2 (lv f z 3) := by
  have ih := cm_lv3 (l := l) (g := g) hn (t := t) (e := e) hB
  have hk := OK3_lv (f := f) (z := z) 2
  have hq : ∀ q : P3, some (lv f z 2) = some q → OK3 z q := fun q h => by cases h; exact hk
  have h1 := cm_atom2 (l := l) (g := g) (t := t) (e := e) hn (B := 30) (by omega) hB (o := 2) (by omega) hk (ih.1.up (by omega)) ih.2.2
  have q1 := PQ_one (f := f) (z := z) (o := (some (lv f z 2))) hq
  have h2 := cm_term2 hn (by omega) hB h1 q1
  have h3 := cm_added2 hn (by omega) hB h2 (PQ_gB op2T q1)
  have h4 := cm_not2 hn (by omega) hB (o := 2) (by omega) hk (ih.2.1.up (by omega)) (PQ_gB op2S (PQ_gB op2T q1)) h3
  have q4 := PQ_not (f := f) (z := z) hq (PQ_cmp (f := f) q1)
  have h5 := cm_both2 hn (by omega) hB h4 q4
  exact ⟨h1, h4, cm_either2 hn (by omega) hB h5 (PQ_gB op2A q4)⟩
theorem cm_lv1 {l : Launch} {g : Gw} {n : Nat} (hn : 90 ≤ n) {t : Nat} {f : Nat → Int} {z : Int} {e : Int → Int} (hB : BT f z) : LM3 l g n t f z e 37 1 m_X8_atom1 m_X8_not1 m_X8_either1 (lv f z 4) := by
  have ih := cm_lv2 (l := l) (g := g) hn (t := t) (e := e) hB
  have hk := OK3_lv (f := f) (z := z) 3
  have hq : ∀ q : P3, some (lv f z 3) = some q → OK3 z q := fun q h => by cases h; exact hk
  have h1 := cm_atom1 (l := l) (g := g) (t := t) (e := e) hn (B := 36) (by omega) hB (o := 1) (by omega) hk (ih.1.up (by omega)) ih.2.2
  have q1 := PQ_one (f := f) (z := z) (o := (some (lv f z 3))) hq
  have h2 := cm_term1 hn (by omega) hB h1 q1
  have h3 := cm_added1 hn (by omega) hB h2 (PQ_gB op2T q1)
  have h4 := cm_not1 hn (by omega) hB (o := 1) (by omega) hk (ih.2.1.up (by omega)) (PQ_gB op2S (PQ_gB op2T q1)) h3
  have q4 := PQ_not (f := f) (z := z) hq (PQ_cmp (f := f) q1)
  have h5 := cm_both1 hn (by omega) hB h4 q4
  exact ⟨h1, h4, cm_either1 hn (by omega) hB h5 (PQ_gB op2A q4)⟩
theorem cm_lv0 {l : Launch} {g : Gw} {n : Nat} (hn : 90 ≤ n) {t : Nat} {f : Nat → Int} {z : Int} {e : Int → Int} (hB : BT f z) : LM3 l g n t f z e 43 0 m_X8_atom0 m_X8_not0 m_X8_either0 (lv f z 5) := by
  have ih := cm_lv1 (l := l) (g := g) hn (t := t) (e := e) hB
  have hk := OK3_lv (f := f) (z := z) 4
  have hq : ∀ q : P3, some (lv f z 4) = some q → OK3 z q := fun q h => by cases h; exact hk
  have h1 := cm_atom0 (l := l) (g := g) (t := t) (e := e) hn (B := 42) (by omega) hB (o := 0) (by omega) hk (ih.1.up (by omega)) ih.2.2
  have q1 := PQ_one (f := f) (z := z) (o := (some (lv f z 4))) hq
  have h2 := cm_term0 hn (by omega) hB h1 q1
  have h3 := cm_added0 hn (by omega) hB h2 (PQ_gB op2T q1)
  have h4 := cm_not0 hn (by omega) hB (o := 0) (by omega) hk (ih.2.1.up (by omega)) (PQ_gB op2S (PQ_gB op2T q1)) h3
  have q4 := PQ_not (f := f) (z := z) hq (PQ_cmp (f := f) q1)
  have h5 := cm_both0 hn (by omega) hB h4 q4
  exact ⟨h1, h4, cm_either0 hn (by omega) hB h5 (PQ_gB op2A q4)⟩
