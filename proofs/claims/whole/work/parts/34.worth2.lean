/-! ===== Text: worth ===== -/
theorem nmv_fr {M M0 : Mm} {T L : Nat} {w : Bool} {x y c : Int} (hT : isT T) (hL : L < 21) (h : Fr (VT T) M M0) : nmv M0 L w x y c = nmv M L w x y c := by
  have hb := hT.b
  have e : ∀ i, i ≤ 26 → M0 i = M i := fun i hi => funext fun j => h i j (by unfold VT; omega)
  unfold nmv
  rw [e (L + 3) (by omega), e L (by omega), e (L + 2) (by omega), e (L + 4) (by omega), e (L + 5) (by omega)]
set_option maxRecDepth 20000 in
set_option maxHeartbeats 4000000 in
theorem lp_worth_2_0 {l : Launch} {g : Gw} {d n : Nat} {M : Mm} {Q : Option Wd → Mm → Prop} {T : Nat} (hT : isT T) (hn : 60 ≤ n) (hR : SR M) (hd : 2 ≤ d) (x y : Int) (hx : 0 ≤ x ∧ x < M 2 2 ∧ x < 5) (hy : 0 ≤ y ∧ y < M 2 2 ∧ y < 5) (h5 : M 2 2 ≤ 5) (e1 : Nat) (he1 : M (T + 2) 0 = (e1 : Int)) (he : e1 ≤ 160) (k : List Int → Prop) (hk : ∀ s M', k s → Fr (VT T) M M' → SR M' → Q (some (0, s.headD 0)) M') : ∀ (m i : Nat) (s : List Int) (M0 : Mm) (v5 : Int) (w7 : Wd), i + m = e1 → Stk M0 T s → s.length ≤ i → Fr (VT T) M M0 → SR M0 → k (run (M (T + 1)) (nmv M 2 true x y) m i s) → Wp l g d 0 0 n m_X5_worth 42 [] [(2, (T : Int)), (0, 0), (2, 2), (0, x), (0, y), (0, v5), (0, (i : Int)), w7] M0 Q := by
  have hb := hT.b
  intro m
  induction m with
  | zero =>
    intro i s M0 v5 w7 hi hS hl hF hR0 hk2
    refine wp_iload dX5_worth_42 rfl ?_
    refine wp_aload_n dX5_worth_44 rfl rfl ?_
    refine wp_get T rfl fl_RX5_15 hT.k0 ⟨by omega, by omega⟩ dX5_worth_45 rfl (v := ((T + 2 : Nat) : Int)) (hT.r1 hR0) ?_
    refine wp_iload_n dX5_worth_48 rfl rfl ?_
    refine wp_iald (T + 2) rfl hT.k2 ⟨by omega, by omega⟩ ⟨by omega, by omega⟩ dX5_worth_49 (v := (e1 : Int)) ((hF _ _ (by unfold VT; omega)).trans he1) ?_
    refine wp_icmp_ge (tgt := 130) dX5_worth_50 (by decide) (fun _ => ?_) (fun h => absurd h (by omega))
    refine wp_aload_n dX5_worth_130 rfl rfl ?_
    refine wp_callV0 (d' := d - 1) cv_RX5_45 T rfl [] [] rfl rfl (Or.inl ⟨_, _, hT.k0, by decide, rfl, by omega, by omega⟩) (by omega) (Nat.le_of_ble_eq_true rfl) dX5_worth_131 rfl (Nat.le_of_ble_eq_true rfl) (by omega) (loc1 := [(2, (T : Int))]) rfl ?_
    refine sp_pull hT hn hR0 hS (by omega) (fun M1 hS1 hF1 hR1 => ?_)
    refine wp_iret rfl dX5_worth_134 ?_
    exact hk s M1 hk2 (hF.tr hF1) hR1
  | succ m ih =>
    intro i s M0 v5 w7 hi hS hl hF hR0 hk2
    have hlen := stp_len (nmv M 2 true x y) (M (T + 1) i) s
    refine wp_iload dX5_worth_42 rfl ?_
    refine wp_aload_n dX5_worth_44 rfl rfl ?_
    refine wp_get T rfl fl_RX5_15 hT.k0 ⟨by omega, by omega⟩ dX5_worth_45 rfl (v := ((T + 2 : Nat) : Int)) (hT.r1 hR0) ?_
    refine wp_iload_n dX5_worth_48 rfl rfl ?_
    refine wp_iald (T + 2) rfl hT.k2 ⟨by omega, by omega⟩ ⟨by omega, by omega⟩ dX5_worth_49 (v := (e1 : Int)) ((hF _ _ (by unfold VT; omega)).trans he1) ?_
    refine wp_icmp_ge (tgt := 130) dX5_worth_50 (by decide) (fun h => absurd h (by omega)) (fun _ => ?_)
    refine wp_iload dX5_worth_53 rfl ?_
    refine wp_aload_n dX5_worth_55 rfl rfl ?_
    refine wp_get T rfl fl_RX5_9 hT.k0 ⟨by omega, by omega⟩ dX5_worth_56 rfl (v := ((T + 1 : Nat) : Int)) (hT.r0 hR0) ?_
    refine wp_alen (T + 1) rfl hT.k1 (by decide) (by decide) ⟨by omega, by omega⟩ dX5_worth_59 ?_
    refine wp_icmp_ge (tgt := 130) dX5_worth_60 (by decide) (fun h => absurd h (by omega)) (fun _ => ?_)
    refine wp_aload_n dX5_worth_63 rfl rfl ?_
    refine wp_get T rfl fl_RX5_9 hT.k0 ⟨by omega, by omega⟩ dX5_worth_64 rfl (v := ((T + 1 : Nat) : Int)) (hT.r0 hR0) ?_
    refine wp_iload dX5_worth_67 rfl ?_
    refine wp_iald (T + 1) rfl hT.k1 ⟨by omega, by omega⟩ ⟨by omega, by omega⟩ dX5_worth_69 (v := (M (T + 1) i)) (hF _ _ (by unfold VT; omega)) ?_
    refine wp_istore (loc' := [(2, (T : Int)), (0, 0), (2, 2), (0, x), (0, y), (0, v5), (0, (i : Int)), (0, (M (T + 1) i))]) dX5_worth_70 (Nat.le_of_ble_eq_true rfl) rfl ?_
    refine wp_iload dX5_worth_72 rfl ?_
    refine wp_if_lt (tgt := 86) dX5_worth_74 (by decide) (fun h74 => ?_) (fun h74 => ?_)
    · refine wp_iload dX5_worth_86 rfl ?_
      refine wp_bipush dX5_worth_88 (by decide) (by decide) ?_
      refine wp_icmp_lt (tgt := 118) dX5_worth_90 (by decide) (fun h90 => ?_) (fun h90 => ?_)
      · refine wp_aload_n dX5_worth_118 rfl rfl ?_
        refine wp_iload dX5_worth_119 rfl ?_
        refine wp_callV0 (d' := d - 1) cv_RX5_42 T rfl [(0, (M (T + 1) i))] [] rfl rfl (Or.inl ⟨_, _, hT.k0, by decide, rfl, by omega, by omega⟩) (by omega) (Nat.le_of_ble_eq_true rfl) dX5_worth_121 rfl (Nat.le_of_ble_eq_true rfl) (by omega) (loc1 := [(2, (T : Int)), (0, (M (T + 1) i)), (9, 0)]) rfl ?_
        refine sp_work hT hn hR0 (by omega) hS (by omega) (M (T + 1) i) (fun M1 hS1 hF1 hR1 => ?_)
        refine wp_iinc (loc' := [(2, (T : Int)), (0, 0), (2, 2), (0, x), (0, y), (0, v5), (0, ((i : Int) + 1)), (0, (M (T + 1) i))]) dX5_worth_124 rfl (by omega) rfl ?_
        refine wp_goto (tgt := 42) dX5_worth_127 (by decide) ?_
        refine ih (i + 1) (stp (nmv M 2 true x y) (M (T + 1) i) s) M1 _ _ (by omega) ?_ (by omega) (hF.tr hF1) hR1 hk2
        unfold stp
        (repeat' split) <;> first | exact hS1 | omega
      · refine wp_aload_n dX5_worth_93 rfl rfl ?_
        refine wp_iload dX5_worth_94 rfl ?_
        refine wp_iload_n dX5_worth_96 rfl rfl ?_
        refine wp_if_ne (tgt := 104) dX5_worth_97 (by decide) (fun h => absurd h (by decide)) (fun _ => ?_)
        refine wp_iconst dX5_worth_100 (by decide) ?_
        refine wp_goto (tgt := 105) dX5_worth_101 (by decide) ?_
        refine wp_aload_n dX5_worth_105 rfl rfl ?_
        refine wp_iload_n dX5_worth_106 rfl rfl ?_
        refine wp_iload dX5_worth_107 rfl ?_
        refine wp_callS0 (d' := d - 1) cs_RX5_38 [(0, (M (T + 1) i)), (0, 1), (2, 2), (0, x), (0, y)] [(2, (T : Int))] rfl rfl (Nat.le_of_ble_eq_true rfl) dX5_worth_109 rfl (Nat.le_of_ble_eq_true rfl) (by omega) (loc1 := [(0, (M (T + 1) i)), (0, 1), (2, 2), (0, x), (0, y)]) rfl ?_
        refine sp_nameWorth_2_1 hn (by omega) hR0 (M (T + 1) i) x y (by rw [hF 2 2 (by unfold VT; omega)]; exact hx) (by rw [hF 2 2 (by unfold VT; omega)]; exact hy) (by rw [hF 2 2 (by unfold VT; omega)]; exact h5) ?_
        rw [show nmv M0 2 true x y (M (T + 1) i) = nmv M 2 true x y (M (T + 1) i) from nmv_fr hT (by omega) hF]
        refine wp_callV0 (d' := d - 1) cv_RX5_34 T rfl [(0, (nmv M 2 true x y (M (T + 1) i)))] [] rfl rfl (Or.inl ⟨_, _, hT.k0, by decide, rfl, by omega, by omega⟩) (by omega) (Nat.le_of_ble_eq_true rfl) dX5_worth_112 rfl (Nat.le_of_ble_eq_true rfl) (by omega) (loc1 := [(2, (T : Int)), (0, (nmv M 2 true x y (M (T + 1) i)))]) rfl ?_
        refine sp_push hT hn hR0 hS (by omega) (nmv M 2 true x y (M (T + 1) i)) (fun M1 hS1 hF1 hR1 => ?_)
        refine wp_goto (tgt := 124) dX5_worth_115 (by decide) ?_
        refine wp_iinc (loc' := [(2, (T : Int)), (0, 0), (2, 2), (0, x), (0, y), (0, v5), (0, ((i : Int) + 1)), (0, (M (T + 1) i))]) dX5_worth_124 rfl (by omega) rfl ?_
        refine wp_goto (tgt := 42) dX5_worth_127 (by decide) ?_
        refine ih (i + 1) (stp (nmv M 2 true x y) (M (T + 1) i) s) M1 _ _ (by omega) ?_ (by omega) (hF.tr hF1) hR1 hk2
        unfold stp
        (repeat' split) <;> first | exact hS1 | omega
    · refine wp_aload_n dX5_worth_77 rfl rfl ?_
      refine wp_iload dX5_worth_78 rfl ?_
      refine wp_callV0 (d' := d - 1) cv_RX5_34 T rfl [(0, (M (T + 1) i))] [] rfl rfl (Or.inl ⟨_, _, hT.k0, by decide, rfl, by omega, by omega⟩) (by omega) (Nat.le_of_ble_eq_true rfl) dX5_worth_80 rfl (Nat.le_of_ble_eq_true rfl) (by omega) (loc1 := [(2, (T : Int)), (0, (M (T + 1) i))]) rfl ?_
      refine sp_push hT hn hR0 hS (by omega) (M (T + 1) i) (fun M1 hS1 hF1 hR1 => ?_)
      refine wp_goto (tgt := 124) dX5_worth_83 (by decide) ?_
      refine wp_iinc (loc' := [(2, (T : Int)), (0, 0), (2, 2), (0, x), (0, y), (0, v5), (0, ((i : Int) + 1)), (0, (M (T + 1) i))]) dX5_worth_124 rfl (by omega) rfl ?_
      refine wp_goto (tgt := 42) dX5_worth_127 (by decide) ?_
      refine ih (i + 1) (stp (nmv M 2 true x y) (M (T + 1) i) s) M1 _ _ (by omega) ?_ (by omega) (hF.tr hF1) hR1 hk2
      unfold stp
      (repeat' split) <;> first | exact hS1 | omega
set_option maxRecDepth 20000 in
set_option maxHeartbeats 4000000 in
theorem sp_worth_2_0 {l : Launch} {g : Gw} {d n : Nat} {M : Mm} {Q : Option Wd → Mm → Prop} {T : Nat} (hT : isT T) (hn : 60 ≤ n) (hR : SR M) (hd : 2 ≤ d) (x y : Int) (hx : 0 ≤ x ∧ x < M 2 2 ∧ x < 5) (hy : 0 ≤ y ∧ y < M 2 2 ∧ y < 5) (h5 : M 2 2 ≤ 5) (e1 : Nat) (he1 : M (T + 2) 0 = (e1 : Int)) (he : e1 ≤ 160) (k : ∀ M', Fr (VT T) M M' → SR M' → Q (some (0, (run (M (T + 1)) (nmv M 2 true x y) e1 0 []).headD 0)) M') : Wp l g d 0 0 n m_X5_worth 0 [] [(2, (T : Int)), (0, 0), (2, 2), (0, x), (0, y), (9, 0), (9, 0), (9, 0)] M Q := by
  have hb := hT.b
  have f0 : Fr (VT T) M (mu M T 4 0) := Fr.rf.put (Or.inr ⟨rfl, rfl⟩)
  have hR1 := VT.sr hT f0 hR
  have hS : Stk (mu M T 4 0) T [] := ⟨mu_self _ _ _ _, fun k hk => by simp at hk⟩
  refine wp_iload_n dX5_worth_0 rfl rfl ?_
  refine wp_if_lt (tgt := 9) dX5_worth_1 (by decide) (fun h => absurd h (by decide)) (fun _ => ?_)
  refine wp_iload_n dX5_worth_4 rfl rfl ?_
  refine wp_iconst dX5_worth_5 (by decide) ?_
  refine wp_icmp_lt (tgt := 11) dX5_worth_6 (by decide) (fun _ => ?_) (fun h => absurd h (by decide))
  refine wp_aload_n dX5_worth_11 rfl rfl ?_
  refine wp_iconst dX5_worth_12 (by decide) ?_
  refine wp_puti T rfl fl_RX5_25 hT.k0 ⟨by omega, by omega⟩ dX5_worth_13 rfl rfl ?_
  refine wp_iload_n dX5_worth_16 rfl rfl ?_
  refine wp_if_ne (tgt := 24) dX5_worth_17 (by decide) (fun h => absurd h (by decide)) (fun _ => ?_)
  refine wp_iconst dX5_worth_20 (by decide) ?_
  refine wp_goto (tgt := 32) dX5_worth_21 (by decide) ?_
  refine wp_istore (loc' := [(2, (T : Int)), (0, 0), (2, 2), (0, x), (0, y), (0, 0), (9, 0), (9, 0)]) dX5_worth_32 (Nat.le_of_ble_eq_true rfl) rfl ?_
  refine wp_iload dX5_worth_34 rfl ?_
  refine wp_iconst dX5_worth_36 (by decide) ?_
  refine wp_mmax mm_RX5_28 mms_max ini_RJ9 mmc_max (Nat.le_of_ble_eq_true rfl) (by omega) rfl dX5_worth_37 ?_
  refine wp_istore (loc' := [(2, (T : Int)), (0, 0), (2, 2), (0, x), (0, y), (0, 0), (0, (if 0 < 0 then 0 else 0)), (9, 0)]) dX5_worth_40 (Nat.le_of_ble_eq_true rfl) rfl ?_
  exact lp_worth_2_0 hT hn hR hd x y hx hy h5 e1 he1 he (fun z => z = run (M (T + 1)) (nmv M 2 true x y) e1 0 []) (fun z M' hz hF hRz => by rw [hz]; exact k M' hF hRz) e1 0 [] _ _ _ (by omega) hS (Nat.zero_le _) f0 hR1 rfl
set_option maxRecDepth 20000 in
set_option maxHeartbeats 4000000 in
theorem lp_worth_2_1 {l : Launch} {g : Gw} {d n : Nat} {M : Mm} {Q : Option Wd → Mm → Prop} {T : Nat} (hT : isT T) (hn : 60 ≤ n) (hR : SR M) (hd : 2 ≤ d) (x y : Int) (hx : 0 ≤ x ∧ x < M 2 2 ∧ x < 5) (h5 : M 2 2 ≤ 5) (e1 : Nat) (he1 : M (T + 2) 1 = (e1 : Int)) (he : e1 ≤ 160) (k : List Int → Prop) (hk : ∀ s M', k s → Fr (VT T) M M' → SR M' → Q (some (0, s.headD 0)) M') : ∀ (m i : Nat) (s : List Int) (M0 : Mm) (v5 : Int) (w7 : Wd), i + m = e1 → Stk M0 T s → s.length ≤ i → Fr (VT T) M M0 → SR M0 → k (run (M (T + 1)) (nmv M 2 false x y) m i s) → Wp l g d 0 0 n m_X5_worth 42 [] [(2, (T : Int)), (0, 1), (2, 2), (0, x), (0, y), (0, v5), (0, (i : Int)), w7] M0 Q := by
  have hb := hT.b
  intro m
  induction m with
  | zero =>
    intro i s M0 v5 w7 hi hS hl hF hR0 hk2
    refine wp_iload dX5_worth_42 rfl ?_
    refine wp_aload_n dX5_worth_44 rfl rfl ?_
    refine wp_get T rfl fl_RX5_15 hT.k0 ⟨by omega, by omega⟩ dX5_worth_45 rfl (v := ((T + 2 : Nat) : Int)) (hT.r1 hR0) ?_
    refine wp_iload_n dX5_worth_48 rfl rfl ?_
    refine wp_iald (T + 2) rfl hT.k2 ⟨by omega, by omega⟩ ⟨by omega, by omega⟩ dX5_worth_49 (v := (e1 : Int)) ((hF _ _ (by unfold VT; omega)).trans he1) ?_
    refine wp_icmp_ge (tgt := 130) dX5_worth_50 (by decide) (fun _ => ?_) (fun h => absurd h (by omega))
    refine wp_aload_n dX5_worth_130 rfl rfl ?_
    refine wp_callV0 (d' := d - 1) cv_RX5_45 T rfl [] [] rfl rfl (Or.inl ⟨_, _, hT.k0, by decide, rfl, by omega, by omega⟩) (by omega) (Nat.le_of_ble_eq_true rfl) dX5_worth_131 rfl (Nat.le_of_ble_eq_true rfl) (by omega) (loc1 := [(2, (T : Int))]) rfl ?_
    refine sp_pull hT hn hR0 hS (by omega) (fun M1 hS1 hF1 hR1 => ?_)
    refine wp_iret rfl dX5_worth_134 ?_
    exact hk s M1 hk2 (hF.tr hF1) hR1
  | succ m ih =>
    intro i s M0 v5 w7 hi hS hl hF hR0 hk2
    have hlen := stp_len (nmv M 2 false x y) (M (T + 1) i) s
    refine wp_iload dX5_worth_42 rfl ?_
    refine wp_aload_n dX5_worth_44 rfl rfl ?_
    refine wp_get T rfl fl_RX5_15 hT.k0 ⟨by omega, by omega⟩ dX5_worth_45 rfl (v := ((T + 2 : Nat) : Int)) (hT.r1 hR0) ?_
    refine wp_iload_n dX5_worth_48 rfl rfl ?_
    refine wp_iald (T + 2) rfl hT.k2 ⟨by omega, by omega⟩ ⟨by omega, by omega⟩ dX5_worth_49 (v := (e1 : Int)) ((hF _ _ (by unfold VT; omega)).trans he1) ?_
    refine wp_icmp_ge (tgt := 130) dX5_worth_50 (by decide) (fun h => absurd h (by omega)) (fun _ => ?_)
    refine wp_iload dX5_worth_53 rfl ?_
    refine wp_aload_n dX5_worth_55 rfl rfl ?_
    refine wp_get T rfl fl_RX5_9 hT.k0 ⟨by omega, by omega⟩ dX5_worth_56 rfl (v := ((T + 1 : Nat) : Int)) (hT.r0 hR0) ?_
    refine wp_alen (T + 1) rfl hT.k1 (by decide) (by decide) ⟨by omega, by omega⟩ dX5_worth_59 ?_
    refine wp_icmp_ge (tgt := 130) dX5_worth_60 (by decide) (fun h => absurd h (by omega)) (fun _ => ?_)
    refine wp_aload_n dX5_worth_63 rfl rfl ?_
    refine wp_get T rfl fl_RX5_9 hT.k0 ⟨by omega, by omega⟩ dX5_worth_64 rfl (v := ((T + 1 : Nat) : Int)) (hT.r0 hR0) ?_
    refine wp_iload dX5_worth_67 rfl ?_
    refine wp_iald (T + 1) rfl hT.k1 ⟨by omega, by omega⟩ ⟨by omega, by omega⟩ dX5_worth_69 (v := (M (T + 1) i)) (hF _ _ (by unfold VT; omega)) ?_
    refine wp_istore (loc' := [(2, (T : Int)), (0, 1), (2, 2), (0, x), (0, y), (0, v5), (0, (i : Int)), (0, (M (T + 1) i))]) dX5_worth_70 (Nat.le_of_ble_eq_true rfl) rfl ?_
    refine wp_iload dX5_worth_72 rfl ?_
    refine wp_if_lt (tgt := 86) dX5_worth_74 (by decide) (fun h74 => ?_) (fun h74 => ?_)
    · refine wp_iload dX5_worth_86 rfl ?_
      refine wp_bipush dX5_worth_88 (by decide) (by decide) ?_
      refine wp_icmp_lt (tgt := 118) dX5_worth_90 (by decide) (fun h90 => ?_) (fun h90 => ?_)
      · refine wp_aload_n dX5_worth_118 rfl rfl ?_
        refine wp_iload dX5_worth_119 rfl ?_
        refine wp_callV0 (d' := d - 1) cv_RX5_42 T rfl [(0, (M (T + 1) i))] [] rfl rfl (Or.inl ⟨_, _, hT.k0, by decide, rfl, by omega, by omega⟩) (by omega) (Nat.le_of_ble_eq_true rfl) dX5_worth_121 rfl (Nat.le_of_ble_eq_true rfl) (by omega) (loc1 := [(2, (T : Int)), (0, (M (T + 1) i)), (9, 0)]) rfl ?_
        refine sp_work hT hn hR0 (by omega) hS (by omega) (M (T + 1) i) (fun M1 hS1 hF1 hR1 => ?_)
        refine wp_iinc (loc' := [(2, (T : Int)), (0, 1), (2, 2), (0, x), (0, y), (0, v5), (0, ((i : Int) + 1)), (0, (M (T + 1) i))]) dX5_worth_124 rfl (by omega) rfl ?_
        refine wp_goto (tgt := 42) dX5_worth_127 (by decide) ?_
        refine ih (i + 1) (stp (nmv M 2 false x y) (M (T + 1) i) s) M1 _ _ (by omega) ?_ (by omega) (hF.tr hF1) hR1 hk2
        unfold stp
        (repeat' split) <;> first | exact hS1 | omega
      · refine wp_aload_n dX5_worth_93 rfl rfl ?_
        refine wp_iload dX5_worth_94 rfl ?_
        refine wp_iload_n dX5_worth_96 rfl rfl ?_
        refine wp_if_ne (tgt := 104) dX5_worth_97 (by decide) (fun _ => ?_) (fun h => absurd h (by decide))
        refine wp_iconst dX5_worth_104 (by decide) ?_
        refine wp_aload_n dX5_worth_105 rfl rfl ?_
        refine wp_iload_n dX5_worth_106 rfl rfl ?_
        refine wp_iload dX5_worth_107 rfl ?_
        refine wp_callS0 (d' := d - 1) cs_RX5_38 [(0, (M (T + 1) i)), (0, 0), (2, 2), (0, x), (0, y)] [(2, (T : Int))] rfl rfl (Nat.le_of_ble_eq_true rfl) dX5_worth_109 rfl (Nat.le_of_ble_eq_true rfl) (by omega) (loc1 := [(0, (M (T + 1) i)), (0, 0), (2, 2), (0, x), (0, y)]) rfl ?_
        refine sp_nameWorth_2_0 hn (by omega) hR0 (M (T + 1) i) x y (by rw [hF 2 2 (by unfold VT; omega)]; exact hx)  (by rw [hF 2 2 (by unfold VT; omega)]; exact h5) ?_
        rw [show nmv M0 2 false x y (M (T + 1) i) = nmv M 2 false x y (M (T + 1) i) from nmv_fr hT (by omega) hF]
        refine wp_callV0 (d' := d - 1) cv_RX5_34 T rfl [(0, (nmv M 2 false x y (M (T + 1) i)))] [] rfl rfl (Or.inl ⟨_, _, hT.k0, by decide, rfl, by omega, by omega⟩) (by omega) (Nat.le_of_ble_eq_true rfl) dX5_worth_112 rfl (Nat.le_of_ble_eq_true rfl) (by omega) (loc1 := [(2, (T : Int)), (0, (nmv M 2 false x y (M (T + 1) i)))]) rfl ?_
        refine sp_push hT hn hR0 hS (by omega) (nmv M 2 false x y (M (T + 1) i)) (fun M1 hS1 hF1 hR1 => ?_)
        refine wp_goto (tgt := 124) dX5_worth_115 (by decide) ?_
        refine wp_iinc (loc' := [(2, (T : Int)), (0, 1), (2, 2), (0, x), (0, y), (0, v5), (0, ((i : Int) + 1)), (0, (M (T + 1) i))]) dX5_worth_124 rfl (by omega) rfl ?_
        refine wp_goto (tgt := 42) dX5_worth_127 (by decide) ?_
        refine ih (i + 1) (stp (nmv M 2 false x y) (M (T + 1) i) s) M1 _ _ (by omega) ?_ (by omega) (hF.tr hF1) hR1 hk2
        unfold stp
        (repeat' split) <;> first | exact hS1 | omega
    · refine wp_aload_n dX5_worth_77 rfl rfl ?_
      refine wp_iload dX5_worth_78 rfl ?_
      refine wp_callV0 (d' := d - 1) cv_RX5_34 T rfl [(0, (M (T + 1) i))] [] rfl rfl (Or.inl ⟨_, _, hT.k0, by decide, rfl, by omega, by omega⟩) (by omega) (Nat.le_of_ble_eq_true rfl) dX5_worth_80 rfl (Nat.le_of_ble_eq_true rfl) (by omega) (loc1 := [(2, (T : Int)), (0, (M (T + 1) i))]) rfl ?_
      refine sp_push hT hn hR0 hS (by omega) (M (T + 1) i) (fun M1 hS1 hF1 hR1 => ?_)
      refine wp_goto (tgt := 124) dX5_worth_83 (by decide) ?_
      refine wp_iinc (loc' := [(2, (T : Int)), (0, 1), (2, 2), (0, x), (0, y), (0, v5), (0, ((i : Int) + 1)), (0, (M (T + 1) i))]) dX5_worth_124 rfl (by omega) rfl ?_
      refine wp_goto (tgt := 42) dX5_worth_127 (by decide) ?_
      refine ih (i + 1) (stp (nmv M 2 false x y) (M (T + 1) i) s) M1 _ _ (by omega) ?_ (by omega) (hF.tr hF1) hR1 hk2
      unfold stp
      (repeat' split) <;> first | exact hS1 | omega
set_option maxRecDepth 20000 in
set_option maxHeartbeats 4000000 in
theorem sp_worth_2_1 {l : Launch} {g : Gw} {d n : Nat} {M : Mm} {Q : Option Wd → Mm → Prop} {T : Nat} (hT : isT T) (hn : 60 ≤ n) (hR : SR M) (hd : 2 ≤ d) (x y : Int) (hx : 0 ≤ x ∧ x < M 2 2 ∧ x < 5) (h5 : M 2 2 ≤ 5) (e1 : Nat) (he1 : M (T + 2) 1 = (e1 : Int)) (he : e1 ≤ 160) (e0 : Nat) (he0 : M (T + 2) 0 = (e0 : Int)) (h01 : e0 ≤ e1) (k : ∀ M', Fr (VT T) M M' → SR M' → Q (some (0, (run (M (T + 1)) (nmv M 2 false x y) (e1 - e0) e0 []).headD 0)) M') : Wp l g d 0 0 n m_X5_worth 0 [] [(2, (T : Int)), (0, 1), (2, 2), (0, x), (0, y), (9, 0), (9, 0), (9, 0)] M Q := by
  have hb := hT.b
  have f0 : Fr (VT T) M (mu M T 4 0) := Fr.rf.put (Or.inr ⟨rfl, rfl⟩)
  have hR1 := VT.sr hT f0 hR
  have hS : Stk (mu M T 4 0) T [] := ⟨mu_self _ _ _ _, fun k hk => by simp at hk⟩
  refine wp_iload_n dX5_worth_0 rfl rfl ?_
  refine wp_if_lt (tgt := 9) dX5_worth_1 (by decide) (fun h => absurd h (by decide)) (fun _ => ?_)
  refine wp_iload_n dX5_worth_4 rfl rfl ?_
  refine wp_iconst dX5_worth_5 (by decide) ?_
  refine wp_icmp_lt (tgt := 11) dX5_worth_6 (by decide) (fun _ => ?_) (fun h => absurd h (by decide))
  refine wp_aload_n dX5_worth_11 rfl rfl ?_
  refine wp_iconst dX5_worth_12 (by decide) ?_
  refine wp_puti T rfl fl_RX5_25 hT.k0 ⟨by omega, by omega⟩ dX5_worth_13 rfl rfl ?_
  refine wp_iload_n dX5_worth_16 rfl rfl ?_
  refine wp_if_ne (tgt := 24) dX5_worth_17 (by decide) (fun _ => ?_) (fun h => absurd h (by decide))
  refine wp_aload_n dX5_worth_24 rfl rfl ?_
  refine wp_get T rfl fl_RX5_15 hT.k0 ⟨by omega, by omega⟩ dX5_worth_25 rfl (v := ((T + 2 : Nat) : Int)) ((mu_nj _ _ _ (by omega)).trans (hT.r1 hR)) ?_
  refine wp_iload_n dX5_worth_28 rfl rfl ?_
  refine wp_iconst dX5_worth_29 (by decide) ?_
  refine wp_isub dX5_worth_30 (by omega) ?_
  refine wp_iald (T + 2) rfl hT.k2 ⟨by omega, by omega⟩ ⟨by omega, by omega⟩ dX5_worth_31 (v := (e0 : Int)) ((mu_ne _ _ _ (by omega) _).trans (he0)) ?_
  refine wp_istore (loc' := [(2, (T : Int)), (0, 1), (2, 2), (0, x), (0, y), (0, (e0 : Int)), (9, 0), (9, 0)]) dX5_worth_32 (Nat.le_of_ble_eq_true rfl) rfl ?_
  refine wp_iload dX5_worth_34 rfl ?_
  refine wp_iconst dX5_worth_36 (by decide) ?_
  refine wp_mmax mm_RX5_28 mms_max ini_RJ9 mmc_max (Nat.le_of_ble_eq_true rfl) (by omega) rfl dX5_worth_37 ?_
  refine wp_istore (loc' := [(2, (T : Int)), (0, 1), (2, 2), (0, x), (0, y), (0, (e0 : Int)), (0, (if (e0 : Int) < 0 then 0 else (e0 : Int))), (9, 0)]) dX5_worth_40 (Nat.le_of_ble_eq_true rfl) rfl ?_
  rw [if_neg (show ¬ (e0 : Int) < 0 by omega)]
  exact lp_worth_2_1 hT hn hR hd x y hx h5 e1 he1 he (fun z => z = run (M (T + 1)) (nmv M 2 false x y) (e1 - e0) e0 []) (fun z M' hz hF hRz => by rw [hz]; exact k M' hF hRz) (e1 - e0) e0 [] _ _ _ (by omega) hS (Nat.zero_le _) f0 hR1 rfl
set_option maxRecDepth 20000 in
set_option maxHeartbeats 4000000 in
theorem lp_worth_2_2 {l : Launch} {g : Gw} {d n : Nat} {M : Mm} {Q : Option Wd → Mm → Prop} {T : Nat} (hT : isT T) (hn : 60 ≤ n) (hR : SR M) (hd : 2 ≤ d) (x y : Int) (hx : 0 ≤ x ∧ x < M 2 2 ∧ x < 5) (h5 : M 2 2 ≤ 5) (e1 : Nat) (he1 : M (T + 2) 2 = (e1 : Int)) (he : e1 ≤ 160) (k : List Int → Prop) (hk : ∀ s M', k s → Fr (VT T) M M' → SR M' → Q (some (0, s.headD 0)) M') : ∀ (m i : Nat) (s : List Int) (M0 : Mm) (v5 : Int) (w7 : Wd), i + m = e1 → Stk M0 T s → s.length ≤ i → Fr (VT T) M M0 → SR M0 → k (run (M (T + 1)) (nmv M 2 false x y) m i s) → Wp l g d 0 0 n m_X5_worth 42 [] [(2, (T : Int)), (0, 2), (2, 2), (0, x), (0, y), (0, v5), (0, (i : Int)), w7] M0 Q := by
  have hb := hT.b
  intro m
  induction m with
  | zero =>
    intro i s M0 v5 w7 hi hS hl hF hR0 hk2
    refine wp_iload dX5_worth_42 rfl ?_
    refine wp_aload_n dX5_worth_44 rfl rfl ?_
    refine wp_get T rfl fl_RX5_15 hT.k0 ⟨by omega, by omega⟩ dX5_worth_45 rfl (v := ((T + 2 : Nat) : Int)) (hT.r1 hR0) ?_
    refine wp_iload_n dX5_worth_48 rfl rfl ?_
    refine wp_iald (T + 2) rfl hT.k2 ⟨by omega, by omega⟩ ⟨by omega, by omega⟩ dX5_worth_49 (v := (e1 : Int)) ((hF _ _ (by unfold VT; omega)).trans he1) ?_
    refine wp_icmp_ge (tgt := 130) dX5_worth_50 (by decide) (fun _ => ?_) (fun h => absurd h (by omega))
    refine wp_aload_n dX5_worth_130 rfl rfl ?_
    refine wp_callV0 (d' := d - 1) cv_RX5_45 T rfl [] [] rfl rfl (Or.inl ⟨_, _, hT.k0, by decide, rfl, by omega, by omega⟩) (by omega) (Nat.le_of_ble_eq_true rfl) dX5_worth_131 rfl (Nat.le_of_ble_eq_true rfl) (by omega) (loc1 := [(2, (T : Int))]) rfl ?_
    refine sp_pull hT hn hR0 hS (by omega) (fun M1 hS1 hF1 hR1 => ?_)
    refine wp_iret rfl dX5_worth_134 ?_
    exact hk s M1 hk2 (hF.tr hF1) hR1
  | succ m ih =>
    intro i s M0 v5 w7 hi hS hl hF hR0 hk2
    have hlen := stp_len (nmv M 2 false x y) (M (T + 1) i) s
    refine wp_iload dX5_worth_42 rfl ?_
    refine wp_aload_n dX5_worth_44 rfl rfl ?_
    refine wp_get T rfl fl_RX5_15 hT.k0 ⟨by omega, by omega⟩ dX5_worth_45 rfl (v := ((T + 2 : Nat) : Int)) (hT.r1 hR0) ?_
    refine wp_iload_n dX5_worth_48 rfl rfl ?_
    refine wp_iald (T + 2) rfl hT.k2 ⟨by omega, by omega⟩ ⟨by omega, by omega⟩ dX5_worth_49 (v := (e1 : Int)) ((hF _ _ (by unfold VT; omega)).trans he1) ?_
    refine wp_icmp_ge (tgt := 130) dX5_worth_50 (by decide) (fun h => absurd h (by omega)) (fun _ => ?_)
    refine wp_iload dX5_worth_53 rfl ?_
    refine wp_aload_n dX5_worth_55 rfl rfl ?_
    refine wp_get T rfl fl_RX5_9 hT.k0 ⟨by omega, by omega⟩ dX5_worth_56 rfl (v := ((T + 1 : Nat) : Int)) (hT.r0 hR0) ?_
    refine wp_alen (T + 1) rfl hT.k1 (by decide) (by decide) ⟨by omega, by omega⟩ dX5_worth_59 ?_
    refine wp_icmp_ge (tgt := 130) dX5_worth_60 (by decide) (fun h => absurd h (by omega)) (fun _ => ?_)
    refine wp_aload_n dX5_worth_63 rfl rfl ?_
    refine wp_get T rfl fl_RX5_9 hT.k0 ⟨by omega, by omega⟩ dX5_worth_64 rfl (v := ((T + 1 : Nat) : Int)) (hT.r0 hR0) ?_
    refine wp_iload dX5_worth_67 rfl ?_
    refine wp_iald (T + 1) rfl hT.k1 ⟨by omega, by omega⟩ ⟨by omega, by omega⟩ dX5_worth_69 (v := (M (T + 1) i)) (hF _ _ (by unfold VT; omega)) ?_
    refine wp_istore (loc' := [(2, (T : Int)), (0, 2), (2, 2), (0, x), (0, y), (0, v5), (0, (i : Int)), (0, (M (T + 1) i))]) dX5_worth_70 (Nat.le_of_ble_eq_true rfl) rfl ?_
    refine wp_iload dX5_worth_72 rfl ?_
    refine wp_if_lt (tgt := 86) dX5_worth_74 (by decide) (fun h74 => ?_) (fun h74 => ?_)
    · refine wp_iload dX5_worth_86 rfl ?_
      refine wp_bipush dX5_worth_88 (by decide) (by decide) ?_
      refine wp_icmp_lt (tgt := 118) dX5_worth_90 (by decide) (fun h90 => ?_) (fun h90 => ?_)
      · refine wp_aload_n dX5_worth_118 rfl rfl ?_
        refine wp_iload dX5_worth_119 rfl ?_
        refine wp_callV0 (d' := d - 1) cv_RX5_42 T rfl [(0, (M (T + 1) i))] [] rfl rfl (Or.inl ⟨_, _, hT.k0, by decide, rfl, by omega, by omega⟩) (by omega) (Nat.le_of_ble_eq_true rfl) dX5_worth_121 rfl (Nat.le_of_ble_eq_true rfl) (by omega) (loc1 := [(2, (T : Int)), (0, (M (T + 1) i)), (9, 0)]) rfl ?_
        refine sp_work hT hn hR0 (by omega) hS (by omega) (M (T + 1) i) (fun M1 hS1 hF1 hR1 => ?_)
        refine wp_iinc (loc' := [(2, (T : Int)), (0, 2), (2, 2), (0, x), (0, y), (0, v5), (0, ((i : Int) + 1)), (0, (M (T + 1) i))]) dX5_worth_124 rfl (by omega) rfl ?_
        refine wp_goto (tgt := 42) dX5_worth_127 (by decide) ?_
        refine ih (i + 1) (stp (nmv M 2 false x y) (M (T + 1) i) s) M1 _ _ (by omega) ?_ (by omega) (hF.tr hF1) hR1 hk2
        unfold stp
        (repeat' split) <;> first | exact hS1 | omega
      · refine wp_aload_n dX5_worth_93 rfl rfl ?_
        refine wp_iload dX5_worth_94 rfl ?_
        refine wp_iload_n dX5_worth_96 rfl rfl ?_
        refine wp_if_ne (tgt := 104) dX5_worth_97 (by decide) (fun _ => ?_) (fun h => absurd h (by decide))
        refine wp_iconst dX5_worth_104 (by decide) ?_
        refine wp_aload_n dX5_worth_105 rfl rfl ?_
        refine wp_iload_n dX5_worth_106 rfl rfl ?_
        refine wp_iload dX5_worth_107 rfl ?_
        refine wp_callS0 (d' := d - 1) cs_RX5_38 [(0, (M (T + 1) i)), (0, 0), (2, 2), (0, x), (0, y)] [(2, (T : Int))] rfl rfl (Nat.le_of_ble_eq_true rfl) dX5_worth_109 rfl (Nat.le_of_ble_eq_true rfl) (by omega) (loc1 := [(0, (M (T + 1) i)), (0, 0), (2, 2), (0, x), (0, y)]) rfl ?_
        refine sp_nameWorth_2_0 hn (by omega) hR0 (M (T + 1) i) x y (by rw [hF 2 2 (by unfold VT; omega)]; exact hx)  (by rw [hF 2 2 (by unfold VT; omega)]; exact h5) ?_
        rw [show nmv M0 2 false x y (M (T + 1) i) = nmv M 2 false x y (M (T + 1) i) from nmv_fr hT (by omega) hF]
        refine wp_callV0 (d' := d - 1) cv_RX5_34 T rfl [(0, (nmv M 2 false x y (M (T + 1) i)))] [] rfl rfl (Or.inl ⟨_, _, hT.k0, by decide, rfl, by omega, by omega⟩) (by omega) (Nat.le_of_ble_eq_true rfl) dX5_worth_112 rfl (Nat.le_of_ble_eq_true rfl) (by omega) (loc1 := [(2, (T : Int)), (0, (nmv M 2 false x y (M (T + 1) i)))]) rfl ?_
        refine sp_push hT hn hR0 hS (by omega) (nmv M 2 false x y (M (T + 1) i)) (fun M1 hS1 hF1 hR1 => ?_)
        refine wp_goto (tgt := 124) dX5_worth_115 (by decide) ?_
        refine wp_iinc (loc' := [(2, (T : Int)), (0, 2), (2, 2), (0, x), (0, y), (0, v5), (0, ((i : Int) + 1)), (0, (M (T + 1) i))]) dX5_worth_124 rfl (by omega) rfl ?_
        refine wp_goto (tgt := 42) dX5_worth_127 (by decide) ?_
        refine ih (i + 1) (stp (nmv M 2 false x y) (M (T + 1) i) s) M1 _ _ (by omega) ?_ (by omega) (hF.tr hF1) hR1 hk2
        unfold stp
        (repeat' split) <;> first | exact hS1 | omega
    · refine wp_aload_n dX5_worth_77 rfl rfl ?_
      refine wp_iload dX5_worth_78 rfl ?_
      refine wp_callV0 (d' := d - 1) cv_RX5_34 T rfl [(0, (M (T + 1) i))] [] rfl rfl (Or.inl ⟨_, _, hT.k0, by decide, rfl, by omega, by omega⟩) (by omega) (Nat.le_of_ble_eq_true rfl) dX5_worth_80 rfl (Nat.le_of_ble_eq_true rfl) (by omega) (loc1 := [(2, (T : Int)), (0, (M (T + 1) i))]) rfl ?_
      refine sp_push hT hn hR0 hS (by omega) (M (T + 1) i) (fun M1 hS1 hF1 hR1 => ?_)
      refine wp_goto (tgt := 124) dX5_worth_83 (by decide) ?_
      refine wp_iinc (loc' := [(2, (T : Int)), (0, 2), (2, 2), (0, x), (0, y), (0, v5), (0, ((i : Int) + 1)), (0, (M (T + 1) i))]) dX5_worth_124 rfl (by omega) rfl ?_
      refine wp_goto (tgt := 42) dX5_worth_127 (by decide) ?_
      refine ih (i + 1) (stp (nmv M 2 false x y) (M (T + 1) i) s) M1 _ _ (by omega) ?_ (by omega) (hF.tr hF1) hR1 hk2
      unfold stp
      (repeat' split) <;> first | exact hS1 | omega
set_option maxRecDepth 20000 in
set_option maxHeartbeats 4000000 in
theorem sp_worth_2_2 {l : Launch} {g : Gw} {d n : Nat} {M : Mm} {Q : Option Wd → Mm → Prop} {T : Nat} (hT : isT T) (hn : 60 ≤ n) (hR : SR M) (hd : 2 ≤ d) (x y : Int) (hx : 0 ≤ x ∧ x < M 2 2 ∧ x < 5) (h5 : M 2 2 ≤ 5) (e1 : Nat) (he1 : M (T + 2) 2 = (e1 : Int)) (he : e1 ≤ 160) (e0 : Nat) (he0 : M (T + 2) 1 = (e0 : Int)) (h01 : e0 ≤ e1) (k : ∀ M', Fr (VT T) M M' → SR M' → Q (some (0, (run (M (T + 1)) (nmv M 2 false x y) (e1 - e0) e0 []).headD 0)) M') : Wp l g d 0 0 n m_X5_worth 0 [] [(2, (T : Int)), (0, 2), (2, 2), (0, x), (0, y), (9, 0), (9, 0), (9, 0)] M Q := by
  have hb := hT.b
  have f0 : Fr (VT T) M (mu M T 4 0) := Fr.rf.put (Or.inr ⟨rfl, rfl⟩)
  have hR1 := VT.sr hT f0 hR
  have hS : Stk (mu M T 4 0) T [] := ⟨mu_self _ _ _ _, fun k hk => by simp at hk⟩
  refine wp_iload_n dX5_worth_0 rfl rfl ?_
  refine wp_if_lt (tgt := 9) dX5_worth_1 (by decide) (fun h => absurd h (by decide)) (fun _ => ?_)
  refine wp_iload_n dX5_worth_4 rfl rfl ?_
  refine wp_iconst dX5_worth_5 (by decide) ?_
  refine wp_icmp_lt (tgt := 11) dX5_worth_6 (by decide) (fun _ => ?_) (fun h => absurd h (by decide))
  refine wp_aload_n dX5_worth_11 rfl rfl ?_
  refine wp_iconst dX5_worth_12 (by decide) ?_
  refine wp_puti T rfl fl_RX5_25 hT.k0 ⟨by omega, by omega⟩ dX5_worth_13 rfl rfl ?_
  refine wp_iload_n dX5_worth_16 rfl rfl ?_
  refine wp_if_ne (tgt := 24) dX5_worth_17 (by decide) (fun _ => ?_) (fun h => absurd h (by decide))
  refine wp_aload_n dX5_worth_24 rfl rfl ?_
  refine wp_get T rfl fl_RX5_15 hT.k0 ⟨by omega, by omega⟩ dX5_worth_25 rfl (v := ((T + 2 : Nat) : Int)) ((mu_nj _ _ _ (by omega)).trans (hT.r1 hR)) ?_
  refine wp_iload_n dX5_worth_28 rfl rfl ?_
  refine wp_iconst dX5_worth_29 (by decide) ?_
  refine wp_isub dX5_worth_30 (by omega) ?_
  refine wp_iald (T + 2) rfl hT.k2 ⟨by omega, by omega⟩ ⟨by omega, by omega⟩ dX5_worth_31 (v := (e0 : Int)) ((mu_ne _ _ _ (by omega) _).trans (he0)) ?_
  refine wp_istore (loc' := [(2, (T : Int)), (0, 2), (2, 2), (0, x), (0, y), (0, (e0 : Int)), (9, 0), (9, 0)]) dX5_worth_32 (Nat.le_of_ble_eq_true rfl) rfl ?_
  refine wp_iload dX5_worth_34 rfl ?_
  refine wp_iconst dX5_worth_36 (by decide) ?_
  refine wp_mmax mm_RX5_28 mms_max ini_RJ9 mmc_max (Nat.le_of_ble_eq_true rfl) (by omega) rfl dX5_worth_37 ?_
  refine wp_istore (loc' := [(2, (T : Int)), (0, 2), (2, 2), (0, x), (0, y), (0, (e0 : Int)), (0, (if (e0 : Int) < 0 then 0 else (e0 : Int))), (9, 0)]) dX5_worth_40 (Nat.le_of_ble_eq_true rfl) rfl ?_
  rw [if_neg (show ¬ (e0 : Int) < 0 by omega)]
  exact lp_worth_2_2 hT hn hR hd x y hx h5 e1 he1 he (fun z => z = run (M (T + 1)) (nmv M 2 false x y) (e1 - e0) e0 []) (fun z M' hz hF hRz => by rw [hz]; exact k M' hF hRz) (e1 - e0) e0 [] _ _ _ (by omega) hS (Nat.zero_le _) f0 hR1 rfl
set_option maxRecDepth 20000 in
set_option maxHeartbeats 4000000 in
theorem lp_worth_16_0 {l : Launch} {g : Gw} {d n : Nat} {M : Mm} {Q : Option Wd → Mm → Prop} {T : Nat} (hT : isT T) (hn : 60 ≤ n) (hR : SR M) (hd : 2 ≤ d) (x y : Int) (hx : 0 ≤ x ∧ x < M 16 2 ∧ x < 5) (hy : 0 ≤ y ∧ y < M 16 2 ∧ y < 5) (h5 : M 16 2 ≤ 5) (e1 : Nat) (he1 : M (T + 2) 0 = (e1 : Int)) (he : e1 ≤ 160) (k : List Int → Prop) (hk : ∀ s M', k s → Fr (VT T) M M' → SR M' → Q (some (0, s.headD 0)) M') : ∀ (m i : Nat) (s : List Int) (M0 : Mm) (v5 : Int) (w7 : Wd), i + m = e1 → Stk M0 T s → s.length ≤ i → Fr (VT T) M M0 → SR M0 → k (run (M (T + 1)) (nmv M 16 true x y) m i s) → Wp l g d 0 0 n m_X5_worth 42 [] [(2, (T : Int)), (0, 0), (2, 16), (0, x), (0, y), (0, v5), (0, (i : Int)), w7] M0 Q := by
  have hb := hT.b
  intro m
  induction m with
  | zero =>
    intro i s M0 v5 w7 hi hS hl hF hR0 hk2
    refine wp_iload dX5_worth_42 rfl ?_
    refine wp_aload_n dX5_worth_44 rfl rfl ?_
    refine wp_get T rfl fl_RX5_15 hT.k0 ⟨by omega, by omega⟩ dX5_worth_45 rfl (v := ((T + 2 : Nat) : Int)) (hT.r1 hR0) ?_
    refine wp_iload_n dX5_worth_48 rfl rfl ?_
    refine wp_iald (T + 2) rfl hT.k2 ⟨by omega, by omega⟩ ⟨by omega, by omega⟩ dX5_worth_49 (v := (e1 : Int)) ((hF _ _ (by unfold VT; omega)).trans he1) ?_
    refine wp_icmp_ge (tgt := 130) dX5_worth_50 (by decide) (fun _ => ?_) (fun h => absurd h (by omega))
    refine wp_aload_n dX5_worth_130 rfl rfl ?_
    refine wp_callV0 (d' := d - 1) cv_RX5_45 T rfl [] [] rfl rfl (Or.inl ⟨_, _, hT.k0, by decide, rfl, by omega, by omega⟩) (by omega) (Nat.le_of_ble_eq_true rfl) dX5_worth_131 rfl (Nat.le_of_ble_eq_true rfl) (by omega) (loc1 := [(2, (T : Int))]) rfl ?_
    refine sp_pull hT hn hR0 hS (by omega) (fun M1 hS1 hF1 hR1 => ?_)
    refine wp_iret rfl dX5_worth_134 ?_
    exact hk s M1 hk2 (hF.tr hF1) hR1
  | succ m ih =>
    intro i s M0 v5 w7 hi hS hl hF hR0 hk2
    have hlen := stp_len (nmv M 16 true x y) (M (T + 1) i) s
    refine wp_iload dX5_worth_42 rfl ?_
    refine wp_aload_n dX5_worth_44 rfl rfl ?_
    refine wp_get T rfl fl_RX5_15 hT.k0 ⟨by omega, by omega⟩ dX5_worth_45 rfl (v := ((T + 2 : Nat) : Int)) (hT.r1 hR0) ?_
    refine wp_iload_n dX5_worth_48 rfl rfl ?_
    refine wp_iald (T + 2) rfl hT.k2 ⟨by omega, by omega⟩ ⟨by omega, by omega⟩ dX5_worth_49 (v := (e1 : Int)) ((hF _ _ (by unfold VT; omega)).trans he1) ?_
    refine wp_icmp_ge (tgt := 130) dX5_worth_50 (by decide) (fun h => absurd h (by omega)) (fun _ => ?_)
    refine wp_iload dX5_worth_53 rfl ?_
    refine wp_aload_n dX5_worth_55 rfl rfl ?_
    refine wp_get T rfl fl_RX5_9 hT.k0 ⟨by omega, by omega⟩ dX5_worth_56 rfl (v := ((T + 1 : Nat) : Int)) (hT.r0 hR0) ?_
    refine wp_alen (T + 1) rfl hT.k1 (by decide) (by decide) ⟨by omega, by omega⟩ dX5_worth_59 ?_
    refine wp_icmp_ge (tgt := 130) dX5_worth_60 (by decide) (fun h => absurd h (by omega)) (fun _ => ?_)
    refine wp_aload_n dX5_worth_63 rfl rfl ?_
    refine wp_get T rfl fl_RX5_9 hT.k0 ⟨by omega, by omega⟩ dX5_worth_64 rfl (v := ((T + 1 : Nat) : Int)) (hT.r0 hR0) ?_
    refine wp_iload dX5_worth_67 rfl ?_
    refine wp_iald (T + 1) rfl hT.k1 ⟨by omega, by omega⟩ ⟨by omega, by omega⟩ dX5_worth_69 (v := (M (T + 1) i)) (hF _ _ (by unfold VT; omega)) ?_
    refine wp_istore (loc' := [(2, (T : Int)), (0, 0), (2, 16), (0, x), (0, y), (0, v5), (0, (i : Int)), (0, (M (T + 1) i))]) dX5_worth_70 (Nat.le_of_ble_eq_true rfl) rfl ?_
    refine wp_iload dX5_worth_72 rfl ?_
    refine wp_if_lt (tgt := 86) dX5_worth_74 (by decide) (fun h74 => ?_) (fun h74 => ?_)
    · refine wp_iload dX5_worth_86 rfl ?_
      refine wp_bipush dX5_worth_88 (by decide) (by decide) ?_
      refine wp_icmp_lt (tgt := 118) dX5_worth_90 (by decide) (fun h90 => ?_) (fun h90 => ?_)
      · refine wp_aload_n dX5_worth_118 rfl rfl ?_
        refine wp_iload dX5_worth_119 rfl ?_
        refine wp_callV0 (d' := d - 1) cv_RX5_42 T rfl [(0, (M (T + 1) i))] [] rfl rfl (Or.inl ⟨_, _, hT.k0, by decide, rfl, by omega, by omega⟩) (by omega) (Nat.le_of_ble_eq_true rfl) dX5_worth_121 rfl (Nat.le_of_ble_eq_true rfl) (by omega) (loc1 := [(2, (T : Int)), (0, (M (T + 1) i)), (9, 0)]) rfl ?_
        refine sp_work hT hn hR0 (by omega) hS (by omega) (M (T + 1) i) (fun M1 hS1 hF1 hR1 => ?_)
        refine wp_iinc (loc' := [(2, (T : Int)), (0, 0), (2, 16), (0, x), (0, y), (0, v5), (0, ((i : Int) + 1)), (0, (M (T + 1) i))]) dX5_worth_124 rfl (by omega) rfl ?_
        refine wp_goto (tgt := 42) dX5_worth_127 (by decide) ?_
        refine ih (i + 1) (stp (nmv M 16 true x y) (M (T + 1) i) s) M1 _ _ (by omega) ?_ (by omega) (hF.tr hF1) hR1 hk2
        unfold stp
        (repeat' split) <;> first | exact hS1 | omega
      · refine wp_aload_n dX5_worth_93 rfl rfl ?_
        refine wp_iload dX5_worth_94 rfl ?_
        refine wp_iload_n dX5_worth_96 rfl rfl ?_
        refine wp_if_ne (tgt := 104) dX5_worth_97 (by decide) (fun h => absurd h (by decide)) (fun _ => ?_)
        refine wp_iconst dX5_worth_100 (by decide) ?_
        refine wp_goto (tgt := 105) dX5_worth_101 (by decide) ?_
        refine wp_aload_n dX5_worth_105 rfl rfl ?_
        refine wp_iload_n dX5_worth_106 rfl rfl ?_
        refine wp_iload dX5_worth_107 rfl ?_
        refine wp_callS0 (d' := d - 1) cs_RX5_38 [(0, (M (T + 1) i)), (0, 1), (2, 16), (0, x), (0, y)] [(2, (T : Int))] rfl rfl (Nat.le_of_ble_eq_true rfl) dX5_worth_109 rfl (Nat.le_of_ble_eq_true rfl) (by omega) (loc1 := [(0, (M (T + 1) i)), (0, 1), (2, 16), (0, x), (0, y)]) rfl ?_
        refine sp_nameWorth_16_1 hn (by omega) hR0 (M (T + 1) i) x y (by rw [hF 16 2 (by unfold VT; omega)]; exact hx) (by rw [hF 16 2 (by unfold VT; omega)]; exact hy) (by rw [hF 16 2 (by unfold VT; omega)]; exact h5) ?_
        rw [show nmv M0 16 true x y (M (T + 1) i) = nmv M 16 true x y (M (T + 1) i) from nmv_fr hT (by omega) hF]
        refine wp_callV0 (d' := d - 1) cv_RX5_34 T rfl [(0, (nmv M 16 true x y (M (T + 1) i)))] [] rfl rfl (Or.inl ⟨_, _, hT.k0, by decide, rfl, by omega, by omega⟩) (by omega) (Nat.le_of_ble_eq_true rfl) dX5_worth_112 rfl (Nat.le_of_ble_eq_true rfl) (by omega) (loc1 := [(2, (T : Int)), (0, (nmv M 16 true x y (M (T + 1) i)))]) rfl ?_
        refine sp_push hT hn hR0 hS (by omega) (nmv M 16 true x y (M (T + 1) i)) (fun M1 hS1 hF1 hR1 => ?_)
        refine wp_goto (tgt := 124) dX5_worth_115 (by decide) ?_
        refine wp_iinc (loc' := [(2, (T : Int)), (0, 0), (2, 16), (0, x), (0, y), (0, v5), (0, ((i : Int) + 1)), (0, (M (T + 1) i))]) dX5_worth_124 rfl (by omega) rfl ?_
        refine wp_goto (tgt := 42) dX5_worth_127 (by decide) ?_
        refine ih (i + 1) (stp (nmv M 16 true x y) (M (T + 1) i) s) M1 _ _ (by omega) ?_ (by omega) (hF.tr hF1) hR1 hk2
        unfold stp
        (repeat' split) <;> first | exact hS1 | omega
    · refine wp_aload_n dX5_worth_77 rfl rfl ?_
      refine wp_iload dX5_worth_78 rfl ?_
      refine wp_callV0 (d' := d - 1) cv_RX5_34 T rfl [(0, (M (T + 1) i))] [] rfl rfl (Or.inl ⟨_, _, hT.k0, by decide, rfl, by omega, by omega⟩) (by omega) (Nat.le_of_ble_eq_true rfl) dX5_worth_80 rfl (Nat.le_of_ble_eq_true rfl) (by omega) (loc1 := [(2, (T : Int)), (0, (M (T + 1) i))]) rfl ?_
      refine sp_push hT hn hR0 hS (by omega) (M (T + 1) i) (fun M1 hS1 hF1 hR1 => ?_)
      refine wp_goto (tgt := 124) dX5_worth_83 (by decide) ?_
      refine wp_iinc (loc' := [(2, (T : Int)), (0, 0), (2, 16), (0, x), (0, y), (0, v5), (0, ((i : Int) + 1)), (0, (M (T + 1) i))]) dX5_worth_124 rfl (by omega) rfl ?_
      refine wp_goto (tgt := 42) dX5_worth_127 (by decide) ?_
      refine ih (i + 1) (stp (nmv M 16 true x y) (M (T + 1) i) s) M1 _ _ (by omega) ?_ (by omega) (hF.tr hF1) hR1 hk2
      unfold stp
      (repeat' split) <;> first | exact hS1 | omega
set_option maxRecDepth 20000 in
set_option maxHeartbeats 4000000 in
theorem sp_worth_16_0 {l : Launch} {g : Gw} {d n : Nat} {M : Mm} {Q : Option Wd → Mm → Prop} {T : Nat} (hT : isT T) (hn : 60 ≤ n) (hR : SR M) (hd : 2 ≤ d) (x y : Int) (hx : 0 ≤ x ∧ x < M 16 2 ∧ x < 5) (hy : 0 ≤ y ∧ y < M 16 2 ∧ y < 5) (h5 : M 16 2 ≤ 5) (e1 : Nat) (he1 : M (T + 2) 0 = (e1 : Int)) (he : e1 ≤ 160) (k : ∀ M', Fr (VT T) M M' → SR M' → Q (some (0, (run (M (T + 1)) (nmv M 16 true x y) e1 0 []).headD 0)) M') : Wp l g d 0 0 n m_X5_worth 0 [] [(2, (T : Int)), (0, 0), (2, 16), (0, x), (0, y), (9, 0), (9, 0), (9, 0)] M Q := by
  have hb := hT.b
  have f0 : Fr (VT T) M (mu M T 4 0) := Fr.rf.put (Or.inr ⟨rfl, rfl⟩)
  have hR1 := VT.sr hT f0 hR
  have hS : Stk (mu M T 4 0) T [] := ⟨mu_self _ _ _ _, fun k hk => by simp at hk⟩
  refine wp_iload_n dX5_worth_0 rfl rfl ?_
  refine wp_if_lt (tgt := 9) dX5_worth_1 (by decide) (fun h => absurd h (by decide)) (fun _ => ?_)
  refine wp_iload_n dX5_worth_4 rfl rfl ?_
  refine wp_iconst dX5_worth_5 (by decide) ?_
  refine wp_icmp_lt (tgt := 11) dX5_worth_6 (by decide) (fun _ => ?_) (fun h => absurd h (by decide))
  refine wp_aload_n dX5_worth_11 rfl rfl ?_
  refine wp_iconst dX5_worth_12 (by decide) ?_
  refine wp_puti T rfl fl_RX5_25 hT.k0 ⟨by omega, by omega⟩ dX5_worth_13 rfl rfl ?_
  refine wp_iload_n dX5_worth_16 rfl rfl ?_
  refine wp_if_ne (tgt := 24) dX5_worth_17 (by decide) (fun h => absurd h (by decide)) (fun _ => ?_)
  refine wp_iconst dX5_worth_20 (by decide) ?_
  refine wp_goto (tgt := 32) dX5_worth_21 (by decide) ?_
  refine wp_istore (loc' := [(2, (T : Int)), (0, 0), (2, 16), (0, x), (0, y), (0, 0), (9, 0), (9, 0)]) dX5_worth_32 (Nat.le_of_ble_eq_true rfl) rfl ?_
  refine wp_iload dX5_worth_34 rfl ?_
  refine wp_iconst dX5_worth_36 (by decide) ?_
  refine wp_mmax mm_RX5_28 mms_max ini_RJ9 mmc_max (Nat.le_of_ble_eq_true rfl) (by omega) rfl dX5_worth_37 ?_
  refine wp_istore (loc' := [(2, (T : Int)), (0, 0), (2, 16), (0, x), (0, y), (0, 0), (0, (if 0 < 0 then 0 else 0)), (9, 0)]) dX5_worth_40 (Nat.le_of_ble_eq_true rfl) rfl ?_
  exact lp_worth_16_0 hT hn hR hd x y hx hy h5 e1 he1 he (fun z => z = run (M (T + 1)) (nmv M 16 true x y) e1 0 []) (fun z M' hz hF hRz => by rw [hz]; exact k M' hF hRz) e1 0 [] _ _ _ (by omega) hS (Nat.zero_le _) f0 hR1 rfl
set_option maxRecDepth 20000 in
set_option maxHeartbeats 4000000 in
theorem lp_worth_16_1 {l : Launch} {g : Gw} {d n : Nat} {M : Mm} {Q : Option Wd → Mm → Prop} {T : Nat} (hT : isT T) (hn : 60 ≤ n) (hR : SR M) (hd : 2 ≤ d) (x y : Int) (hx : 0 ≤ x ∧ x < M 16 2 ∧ x < 5) (h5 : M 16 2 ≤ 5) (e1 : Nat) (he1 : M (T + 2) 1 = (e1 : Int)) (he : e1 ≤ 160) (k : List Int → Prop) (hk : ∀ s M', k s → Fr (VT T) M M' → SR M' → Q (some (0, s.headD 0)) M') : ∀ (m i : Nat) (s : List Int) (M0 : Mm) (v5 : Int) (w7 : Wd), i + m = e1 → Stk M0 T s → s.length ≤ i → Fr (VT T) M M0 → SR M0 → k (run (M (T + 1)) (nmv M 16 false x y) m i s) → Wp l g d 0 0 n m_X5_worth 42 [] [(2, (T : Int)), (0, 1), (2, 16), (0, x), (0, y), (0, v5), (0, (i : Int)), w7] M0 Q := by
  have hb := hT.b
  intro m
  induction m with
  | zero =>
    intro i s M0 v5 w7 hi hS hl hF hR0 hk2
    refine wp_iload dX5_worth_42 rfl ?_
    refine wp_aload_n dX5_worth_44 rfl rfl ?_
    refine wp_get T rfl fl_RX5_15 hT.k0 ⟨by omega, by omega⟩ dX5_worth_45 rfl (v := ((T + 2 : Nat) : Int)) (hT.r1 hR0) ?_
    refine wp_iload_n dX5_worth_48 rfl rfl ?_
    refine wp_iald (T + 2) rfl hT.k2 ⟨by omega, by omega⟩ ⟨by omega, by omega⟩ dX5_worth_49 (v := (e1 : Int)) ((hF _ _ (by unfold VT; omega)).trans he1) ?_
    refine wp_icmp_ge (tgt := 130) dX5_worth_50 (by decide) (fun _ => ?_) (fun h => absurd h (by omega))
    refine wp_aload_n dX5_worth_130 rfl rfl ?_
    refine wp_callV0 (d' := d - 1) cv_RX5_45 T rfl [] [] rfl rfl (Or.inl ⟨_, _, hT.k0, by decide, rfl, by omega, by omega⟩) (by omega) (Nat.le_of_ble_eq_true rfl) dX5_worth_131 rfl (Nat.le_of_ble_eq_true rfl) (by omega) (loc1 := [(2, (T : Int))]) rfl ?_
    refine sp_pull hT hn hR0 hS (by omega) (fun M1 hS1 hF1 hR1 => ?_)
    refine wp_iret rfl dX5_worth_134 ?_
    exact hk s M1 hk2 (hF.tr hF1) hR1
  | succ m ih =>
    intro i s M0 v5 w7 hi hS hl hF hR0 hk2
    have hlen := stp_len (nmv M 16 false x y) (M (T + 1) i) s
    refine wp_iload dX5_worth_42 rfl ?_
    refine wp_aload_n dX5_worth_44 rfl rfl ?_
    refine wp_get T rfl fl_RX5_15 hT.k0 ⟨by omega, by omega⟩ dX5_worth_45 rfl (v := ((T + 2 : Nat) : Int)) (hT.r1 hR0) ?_
    refine wp_iload_n dX5_worth_48 rfl rfl ?_
    refine wp_iald (T + 2) rfl hT.k2 ⟨by omega, by omega⟩ ⟨by omega, by omega⟩ dX5_worth_49 (v := (e1 : Int)) ((hF _ _ (by unfold VT; omega)).trans he1) ?_
    refine wp_icmp_ge (tgt := 130) dX5_worth_50 (by decide) (fun h => absurd h (by omega)) (fun _ => ?_)
    refine wp_iload dX5_worth_53 rfl ?_
    refine wp_aload_n dX5_worth_55 rfl rfl ?_
    refine wp_get T rfl fl_RX5_9 hT.k0 ⟨by omega, by omega⟩ dX5_worth_56 rfl (v := ((T + 1 : Nat) : Int)) (hT.r0 hR0) ?_
    refine wp_alen (T + 1) rfl hT.k1 (by decide) (by decide) ⟨by omega, by omega⟩ dX5_worth_59 ?_
    refine wp_icmp_ge (tgt := 130) dX5_worth_60 (by decide) (fun h => absurd h (by omega)) (fun _ => ?_)
    refine wp_aload_n dX5_worth_63 rfl rfl ?_
    refine wp_get T rfl fl_RX5_9 hT.k0 ⟨by omega, by omega⟩ dX5_worth_64 rfl (v := ((T + 1 : Nat) : Int)) (hT.r0 hR0) ?_
    refine wp_iload dX5_worth_67 rfl ?_
    refine wp_iald (T + 1) rfl hT.k1 ⟨by omega, by omega⟩ ⟨by omega, by omega⟩ dX5_worth_69 (v := (M (T + 1) i)) (hF _ _ (by unfold VT; omega)) ?_
    refine wp_istore (loc' := [(2, (T : Int)), (0, 1), (2, 16), (0, x), (0, y), (0, v5), (0, (i : Int)), (0, (M (T + 1) i))]) dX5_worth_70 (Nat.le_of_ble_eq_true rfl) rfl ?_
    refine wp_iload dX5_worth_72 rfl ?_
    refine wp_if_lt (tgt := 86) dX5_worth_74 (by decide) (fun h74 => ?_) (fun h74 => ?_)
    · refine wp_iload dX5_worth_86 rfl ?_
      refine wp_bipush dX5_worth_88 (by decide) (by decide) ?_
      refine wp_icmp_lt (tgt := 118) dX5_worth_90 (by decide) (fun h90 => ?_) (fun h90 => ?_)
      · refine wp_aload_n dX5_worth_118 rfl rfl ?_
        refine wp_iload dX5_worth_119 rfl ?_
        refine wp_callV0 (d' := d - 1) cv_RX5_42 T rfl [(0, (M (T + 1) i))] [] rfl rfl (Or.inl ⟨_, _, hT.k0, by decide, rfl, by omega, by omega⟩) (by omega) (Nat.le_of_ble_eq_true rfl) dX5_worth_121 rfl (Nat.le_of_ble_eq_true rfl) (by omega) (loc1 := [(2, (T : Int)), (0, (M (T + 1) i)), (9, 0)]) rfl ?_
        refine sp_work hT hn hR0 (by omega) hS (by omega) (M (T + 1) i) (fun M1 hS1 hF1 hR1 => ?_)
        refine wp_iinc (loc' := [(2, (T : Int)), (0, 1), (2, 16), (0, x), (0, y), (0, v5), (0, ((i : Int) + 1)), (0, (M (T + 1) i))]) dX5_worth_124 rfl (by omega) rfl ?_
        refine wp_goto (tgt := 42) dX5_worth_127 (by decide) ?_
        refine ih (i + 1) (stp (nmv M 16 false x y) (M (T + 1) i) s) M1 _ _ (by omega) ?_ (by omega) (hF.tr hF1) hR1 hk2
        unfold stp
        (repeat' split) <;> first | exact hS1 | omega
      · refine wp_aload_n dX5_worth_93 rfl rfl ?_
        refine wp_iload dX5_worth_94 rfl ?_
        refine wp_iload_n dX5_worth_96 rfl rfl ?_
        refine wp_if_ne (tgt := 104) dX5_worth_97 (by decide) (fun _ => ?_) (fun h => absurd h (by decide))
        refine wp_iconst dX5_worth_104 (by decide) ?_
        refine wp_aload_n dX5_worth_105 rfl rfl ?_
        refine wp_iload_n dX5_worth_106 rfl rfl ?_
        refine wp_iload dX5_worth_107 rfl ?_
        refine wp_callS0 (d' := d - 1) cs_RX5_38 [(0, (M (T + 1) i)), (0, 0), (2, 16), (0, x), (0, y)] [(2, (T : Int))] rfl rfl (Nat.le_of_ble_eq_true rfl) dX5_worth_109 rfl (Nat.le_of_ble_eq_true rfl) (by omega) (loc1 := [(0, (M (T + 1) i)), (0, 0), (2, 16), (0, x), (0, y)]) rfl ?_
        refine sp_nameWorth_16_0 hn (by omega) hR0 (M (T + 1) i) x y (by rw [hF 16 2 (by unfold VT; omega)]; exact hx)  (by rw [hF 16 2 (by unfold VT; omega)]; exact h5) ?_
        rw [show nmv M0 16 false x y (M (T + 1) i) = nmv M 16 false x y (M (T + 1) i) from nmv_fr hT (by omega) hF]
        refine wp_callV0 (d' := d - 1) cv_RX5_34 T rfl [(0, (nmv M 16 false x y (M (T + 1) i)))] [] rfl rfl (Or.inl ⟨_, _, hT.k0, by decide, rfl, by omega, by omega⟩) (by omega) (Nat.le_of_ble_eq_true rfl) dX5_worth_112 rfl (Nat.le_of_ble_eq_true rfl) (by omega) (loc1 := [(2, (T : Int)), (0, (nmv M 16 false x y (M (T + 1) i)))]) rfl ?_
        refine sp_push hT hn hR0 hS (by omega) (nmv M 16 false x y (M (T + 1) i)) (fun M1 hS1 hF1 hR1 => ?_)
        refine wp_goto (tgt := 124) dX5_worth_115 (by decide) ?_
        refine wp_iinc (loc' := [(2, (T : Int)), (0, 1), (2, 16), (0, x), (0, y), (0, v5), (0, ((i : Int) + 1)), (0, (M (T + 1) i))]) dX5_worth_124 rfl (by omega) rfl ?_
        refine wp_goto (tgt := 42) dX5_worth_127 (by decide) ?_
        refine ih (i + 1) (stp (nmv M 16 false x y) (M (T + 1) i) s) M1 _ _ (by omega) ?_ (by omega) (hF.tr hF1) hR1 hk2
        unfold stp
        (repeat' split) <;> first | exact hS1 | omega
    · refine wp_aload_n dX5_worth_77 rfl rfl ?_
      refine wp_iload dX5_worth_78 rfl ?_
      refine wp_callV0 (d' := d - 1) cv_RX5_34 T rfl [(0, (M (T + 1) i))] [] rfl rfl (Or.inl ⟨_, _, hT.k0, by decide, rfl, by omega, by omega⟩) (by omega) (Nat.le_of_ble_eq_true rfl) dX5_worth_80 rfl (Nat.le_of_ble_eq_true rfl) (by omega) (loc1 := [(2, (T : Int)), (0, (M (T + 1) i))]) rfl ?_
      refine sp_push hT hn hR0 hS (by omega) (M (T + 1) i) (fun M1 hS1 hF1 hR1 => ?_)
      refine wp_goto (tgt := 124) dX5_worth_83 (by decide) ?_
      refine wp_iinc (loc' := [(2, (T : Int)), (0, 1), (2, 16), (0, x), (0, y), (0, v5), (0, ((i : Int) + 1)), (0, (M (T + 1) i))]) dX5_worth_124 rfl (by omega) rfl ?_
      refine wp_goto (tgt := 42) dX5_worth_127 (by decide) ?_
      refine ih (i + 1) (stp (nmv M 16 false x y) (M (T + 1) i) s) M1 _ _ (by omega) ?_ (by omega) (hF.tr hF1) hR1 hk2
      unfold stp
      (repeat' split) <;> first | exact hS1 | omega
set_option maxRecDepth 20000 in
set_option maxHeartbeats 4000000 in
theorem sp_worth_16_1 {l : Launch} {g : Gw} {d n : Nat} {M : Mm} {Q : Option Wd → Mm → Prop} {T : Nat} (hT : isT T) (hn : 60 ≤ n) (hR : SR M) (hd : 2 ≤ d) (x y : Int) (hx : 0 ≤ x ∧ x < M 16 2 ∧ x < 5) (h5 : M 16 2 ≤ 5) (e1 : Nat) (he1 : M (T + 2) 1 = (e1 : Int)) (he : e1 ≤ 160) (e0 : Nat) (he0 : M (T + 2) 0 = (e0 : Int)) (h01 : e0 ≤ e1) (k : ∀ M', Fr (VT T) M M' → SR M' → Q (some (0, (run (M (T + 1)) (nmv M 16 false x y) (e1 - e0) e0 []).headD 0)) M') : Wp l g d 0 0 n m_X5_worth 0 [] [(2, (T : Int)), (0, 1), (2, 16), (0, x), (0, y), (9, 0), (9, 0), (9, 0)] M Q := by
  have hb := hT.b
  have f0 : Fr (VT T) M (mu M T 4 0) := Fr.rf.put (Or.inr ⟨rfl, rfl⟩)
  have hR1 := VT.sr hT f0 hR
  have hS : Stk (mu M T 4 0) T [] := ⟨mu_self _ _ _ _, fun k hk => by simp at hk⟩
  refine wp_iload_n dX5_worth_0 rfl rfl ?_
  refine wp_if_lt (tgt := 9) dX5_worth_1 (by decide) (fun h => absurd h (by decide)) (fun _ => ?_)
  refine wp_iload_n dX5_worth_4 rfl rfl ?_
  refine wp_iconst dX5_worth_5 (by decide) ?_
  refine wp_icmp_lt (tgt := 11) dX5_worth_6 (by decide) (fun _ => ?_) (fun h => absurd h (by decide))
  refine wp_aload_n dX5_worth_11 rfl rfl ?_
  refine wp_iconst dX5_worth_12 (by decide) ?_
  refine wp_puti T rfl fl_RX5_25 hT.k0 ⟨by omega, by omega⟩ dX5_worth_13 rfl rfl ?_
  refine wp_iload_n dX5_worth_16 rfl rfl ?_
  refine wp_if_ne (tgt := 24) dX5_worth_17 (by decide) (fun _ => ?_) (fun h => absurd h (by decide))
  refine wp_aload_n dX5_worth_24 rfl rfl ?_
  refine wp_get T rfl fl_RX5_15 hT.k0 ⟨by omega, by omega⟩ dX5_worth_25 rfl (v := ((T + 2 : Nat) : Int)) ((mu_nj _ _ _ (by omega)).trans (hT.r1 hR)) ?_
  refine wp_iload_n dX5_worth_28 rfl rfl ?_
  refine wp_iconst dX5_worth_29 (by decide) ?_
  refine wp_isub dX5_worth_30 (by omega) ?_
  refine wp_iald (T + 2) rfl hT.k2 ⟨by omega, by omega⟩ ⟨by omega, by omega⟩ dX5_worth_31 (v := (e0 : Int)) ((mu_ne _ _ _ (by omega) _).trans (he0)) ?_
  refine wp_istore (loc' := [(2, (T : Int)), (0, 1), (2, 16), (0, x), (0, y), (0, (e0 : Int)), (9, 0), (9, 0)]) dX5_worth_32 (Nat.le_of_ble_eq_true rfl) rfl ?_
  refine wp_iload dX5_worth_34 rfl ?_
  refine wp_iconst dX5_worth_36 (by decide) ?_
  refine wp_mmax mm_RX5_28 mms_max ini_RJ9 mmc_max (Nat.le_of_ble_eq_true rfl) (by omega) rfl dX5_worth_37 ?_
  refine wp_istore (loc' := [(2, (T : Int)), (0, 1), (2, 16), (0, x), (0, y), (0, (e0 : Int)), (0, (if (e0 : Int) < 0 then 0 else (e0 : Int))), (9, 0)]) dX5_worth_40 (Nat.le_of_ble_eq_true rfl) rfl ?_
  rw [if_neg (show ¬ (e0 : Int) < 0 by omega)]
  exact lp_worth_16_1 hT hn hR hd x y hx h5 e1 he1 he (fun z => z = run (M (T + 1)) (nmv M 16 false x y) (e1 - e0) e0 []) (fun z M' hz hF hRz => by rw [hz]; exact k M' hF hRz) (e1 - e0) e0 [] _ _ _ (by omega) hS (Nat.zero_le _) f0 hR1 rfl
set_option maxRecDepth 20000 in
set_option maxHeartbeats 4000000 in
theorem lp_worth_16_2 {l : Launch} {g : Gw} {d n : Nat} {M : Mm} {Q : Option Wd → Mm → Prop} {T : Nat} (hT : isT T) (hn : 60 ≤ n) (hR : SR M) (hd : 2 ≤ d) (x y : Int) (hx : 0 ≤ x ∧ x < M 16 2 ∧ x < 5) (h5 : M 16 2 ≤ 5) (e1 : Nat) (he1 : M (T + 2) 2 = (e1 : Int)) (he : e1 ≤ 160) (k : List Int → Prop) (hk : ∀ s M', k s → Fr (VT T) M M' → SR M' → Q (some (0, s.headD 0)) M') : ∀ (m i : Nat) (s : List Int) (M0 : Mm) (v5 : Int) (w7 : Wd), i + m = e1 → Stk M0 T s → s.length ≤ i → Fr (VT T) M M0 → SR M0 → k (run (M (T + 1)) (nmv M 16 false x y) m i s) → Wp l g d 0 0 n m_X5_worth 42 [] [(2, (T : Int)), (0, 2), (2, 16), (0, x), (0, y), (0, v5), (0, (i : Int)), w7] M0 Q := by
  have hb := hT.b
  intro m
  induction m with
  | zero =>
    intro i s M0 v5 w7 hi hS hl hF hR0 hk2
    refine wp_iload dX5_worth_42 rfl ?_
    refine wp_aload_n dX5_worth_44 rfl rfl ?_
    refine wp_get T rfl fl_RX5_15 hT.k0 ⟨by omega, by omega⟩ dX5_worth_45 rfl (v := ((T + 2 : Nat) : Int)) (hT.r1 hR0) ?_
    refine wp_iload_n dX5_worth_48 rfl rfl ?_
    refine wp_iald (T + 2) rfl hT.k2 ⟨by omega, by omega⟩ ⟨by omega, by omega⟩ dX5_worth_49 (v := (e1 : Int)) ((hF _ _ (by unfold VT; omega)).trans he1) ?_
    refine wp_icmp_ge (tgt := 130) dX5_worth_50 (by decide) (fun _ => ?_) (fun h => absurd h (by omega))
    refine wp_aload_n dX5_worth_130 rfl rfl ?_
    refine wp_callV0 (d' := d - 1) cv_RX5_45 T rfl [] [] rfl rfl (Or.inl ⟨_, _, hT.k0, by decide, rfl, by omega, by omega⟩) (by omega) (Nat.le_of_ble_eq_true rfl) dX5_worth_131 rfl (Nat.le_of_ble_eq_true rfl) (by omega) (loc1 := [(2, (T : Int))]) rfl ?_
    refine sp_pull hT hn hR0 hS (by omega) (fun M1 hS1 hF1 hR1 => ?_)
    refine wp_iret rfl dX5_worth_134 ?_
    exact hk s M1 hk2 (hF.tr hF1) hR1
  | succ m ih =>
    intro i s M0 v5 w7 hi hS hl hF hR0 hk2
    have hlen := stp_len (nmv M 16 false x y) (M (T + 1) i) s
    refine wp_iload dX5_worth_42 rfl ?_
    refine wp_aload_n dX5_worth_44 rfl rfl ?_
    refine wp_get T rfl fl_RX5_15 hT.k0 ⟨by omega, by omega⟩ dX5_worth_45 rfl (v := ((T + 2 : Nat) : Int)) (hT.r1 hR0) ?_
    refine wp_iload_n dX5_worth_48 rfl rfl ?_
    refine wp_iald (T + 2) rfl hT.k2 ⟨by omega, by omega⟩ ⟨by omega, by omega⟩ dX5_worth_49 (v := (e1 : Int)) ((hF _ _ (by unfold VT; omega)).trans he1) ?_
    refine wp_icmp_ge (tgt := 130) dX5_worth_50 (by decide) (fun h => absurd h (by omega)) (fun _ => ?_)
    refine wp_iload dX5_worth_53 rfl ?_
    refine wp_aload_n dX5_worth_55 rfl rfl ?_
    refine wp_get T rfl fl_RX5_9 hT.k0 ⟨by omega, by omega⟩ dX5_worth_56 rfl (v := ((T + 1 : Nat) : Int)) (hT.r0 hR0) ?_
    refine wp_alen (T + 1) rfl hT.k1 (by decide) (by decide) ⟨by omega, by omega⟩ dX5_worth_59 ?_
    refine wp_icmp_ge (tgt := 130) dX5_worth_60 (by decide) (fun h => absurd h (by omega)) (fun _ => ?_)
    refine wp_aload_n dX5_worth_63 rfl rfl ?_
    refine wp_get T rfl fl_RX5_9 hT.k0 ⟨by omega, by omega⟩ dX5_worth_64 rfl (v := ((T + 1 : Nat) : Int)) (hT.r0 hR0) ?_
    refine wp_iload dX5_worth_67 rfl ?_
    refine wp_iald (T + 1) rfl hT.k1 ⟨by omega, by omega⟩ ⟨by omega, by omega⟩ dX5_worth_69 (v := (M (T + 1) i)) (hF _ _ (by unfold VT; omega)) ?_
    refine wp_istore (loc' := [(2, (T : Int)), (0, 2), (2, 16), (0, x), (0, y), (0, v5), (0, (i : Int)), (0, (M (T + 1) i))]) dX5_worth_70 (Nat.le_of_ble_eq_true rfl) rfl ?_
    refine wp_iload dX5_worth_72 rfl ?_
    refine wp_if_lt (tgt := 86) dX5_worth_74 (by decide) (fun h74 => ?_) (fun h74 => ?_)
    · refine wp_iload dX5_worth_86 rfl ?_
      refine wp_bipush dX5_worth_88 (by decide) (by decide) ?_
      refine wp_icmp_lt (tgt := 118) dX5_worth_90 (by decide) (fun h90 => ?_) (fun h90 => ?_)
      · refine wp_aload_n dX5_worth_118 rfl rfl ?_
        refine wp_iload dX5_worth_119 rfl ?_
        refine wp_callV0 (d' := d - 1) cv_RX5_42 T rfl [(0, (M (T + 1) i))] [] rfl rfl (Or.inl ⟨_, _, hT.k0, by decide, rfl, by omega, by omega⟩) (by omega) (Nat.le_of_ble_eq_true rfl) dX5_worth_121 rfl (Nat.le_of_ble_eq_true rfl) (by omega) (loc1 := [(2, (T : Int)), (0, (M (T + 1) i)), (9, 0)]) rfl ?_
        refine sp_work hT hn hR0 (by omega) hS (by omega) (M (T + 1) i) (fun M1 hS1 hF1 hR1 => ?_)
        refine wp_iinc (loc' := [(2, (T : Int)), (0, 2), (2, 16), (0, x), (0, y), (0, v5), (0, ((i : Int) + 1)), (0, (M (T + 1) i))]) dX5_worth_124 rfl (by omega) rfl ?_
        refine wp_goto (tgt := 42) dX5_worth_127 (by decide) ?_
        refine ih (i + 1) (stp (nmv M 16 false x y) (M (T + 1) i) s) M1 _ _ (by omega) ?_ (by omega) (hF.tr hF1) hR1 hk2
        unfold stp
        (repeat' split) <;> first | exact hS1 | omega
      · refine wp_aload_n dX5_worth_93 rfl rfl ?_
        refine wp_iload dX5_worth_94 rfl ?_
        refine wp_iload_n dX5_worth_96 rfl rfl ?_
        refine wp_if_ne (tgt := 104) dX5_worth_97 (by decide) (fun _ => ?_) (fun h => absurd h (by decide))
        refine wp_iconst dX5_worth_104 (by decide) ?_
        refine wp_aload_n dX5_worth_105 rfl rfl ?_
        refine wp_iload_n dX5_worth_106 rfl rfl ?_
        refine wp_iload dX5_worth_107 rfl ?_
        refine wp_callS0 (d' := d - 1) cs_RX5_38 [(0, (M (T + 1) i)), (0, 0), (2, 16), (0, x), (0, y)] [(2, (T : Int))] rfl rfl (Nat.le_of_ble_eq_true rfl) dX5_worth_109 rfl (Nat.le_of_ble_eq_true rfl) (by omega) (loc1 := [(0, (M (T + 1) i)), (0, 0), (2, 16), (0, x), (0, y)]) rfl ?_
        refine sp_nameWorth_16_0 hn (by omega) hR0 (M (T + 1) i) x y (by rw [hF 16 2 (by unfold VT; omega)]; exact hx)  (by rw [hF 16 2 (by unfold VT; omega)]; exact h5) ?_
        rw [show nmv M0 16 false x y (M (T + 1) i) = nmv M 16 false x y (M (T + 1) i) from nmv_fr hT (by omega) hF]
        refine wp_callV0 (d' := d - 1) cv_RX5_34 T rfl [(0, (nmv M 16 false x y (M (T + 1) i)))] [] rfl rfl (Or.inl ⟨_, _, hT.k0, by decide, rfl, by omega, by omega⟩) (by omega) (Nat.le_of_ble_eq_true rfl) dX5_worth_112 rfl (Nat.le_of_ble_eq_true rfl) (by omega) (loc1 := [(2, (T : Int)), (0, (nmv M 16 false x y (M (T + 1) i)))]) rfl ?_
        refine sp_push hT hn hR0 hS (by omega) (nmv M 16 false x y (M (T + 1) i)) (fun M1 hS1 hF1 hR1 => ?_)
        refine wp_goto (tgt := 124) dX5_worth_115 (by decide) ?_
        refine wp_iinc (loc' := [(2, (T : Int)), (0, 2), (2, 16), (0, x), (0, y), (0, v5), (0, ((i : Int) + 1)), (0, (M (T + 1) i))]) dX5_worth_124 rfl (by omega) rfl ?_
        refine wp_goto (tgt := 42) dX5_worth_127 (by decide) ?_
        refine ih (i + 1) (stp (nmv M 16 false x y) (M (T + 1) i) s) M1 _ _ (by omega) ?_ (by omega) (hF.tr hF1) hR1 hk2
        unfold stp
        (repeat' split) <;> first | exact hS1 | omega
    · refine wp_aload_n dX5_worth_77 rfl rfl ?_
      refine wp_iload dX5_worth_78 rfl ?_
      refine wp_callV0 (d' := d - 1) cv_RX5_34 T rfl [(0, (M (T + 1) i))] [] rfl rfl (Or.inl ⟨_, _, hT.k0, by decide, rfl, by omega, by omega⟩) (by omega) (Nat.le_of_ble_eq_true rfl) dX5_worth_80 rfl (Nat.le_of_ble_eq_true rfl) (by omega) (loc1 := [(2, (T : Int)), (0, (M (T + 1) i))]) rfl ?_
      refine sp_push hT hn hR0 hS (by omega) (M (T + 1) i) (fun M1 hS1 hF1 hR1 => ?_)
      refine wp_goto (tgt := 124) dX5_worth_83 (by decide) ?_
      refine wp_iinc (loc' := [(2, (T : Int)), (0, 2), (2, 16), (0, x), (0, y), (0, v5), (0, ((i : Int) + 1)), (0, (M (T + 1) i))]) dX5_worth_124 rfl (by omega) rfl ?_
      refine wp_goto (tgt := 42) dX5_worth_127 (by decide) ?_
      refine ih (i + 1) (stp (nmv M 16 false x y) (M (T + 1) i) s) M1 _ _ (by omega) ?_ (by omega) (hF.tr hF1) hR1 hk2
      unfold stp
      (repeat' split) <;> first | exact hS1 | omega
set_option maxRecDepth 20000 in
set_option maxHeartbeats 4000000 in
theorem sp_worth_16_2 {l : Launch} {g : Gw} {d n : Nat} {M : Mm} {Q : Option Wd → Mm → Prop} {T : Nat} (hT : isT T) (hn : 60 ≤ n) (hR : SR M) (hd : 2 ≤ d) (x y : Int) (hx : 0 ≤ x ∧ x < M 16 2 ∧ x < 5) (h5 : M 16 2 ≤ 5) (e1 : Nat) (he1 : M (T + 2) 2 = (e1 : Int)) (he : e1 ≤ 160) (e0 : Nat) (he0 : M (T + 2) 1 = (e0 : Int)) (h01 : e0 ≤ e1) (k : ∀ M', Fr (VT T) M M' → SR M' → Q (some (0, (run (M (T + 1)) (nmv M 16 false x y) (e1 - e0) e0 []).headD 0)) M') : Wp l g d 0 0 n m_X5_worth 0 [] [(2, (T : Int)), (0, 2), (2, 16), (0, x), (0, y), (9, 0), (9, 0), (9, 0)] M Q := by
  have hb := hT.b
  have f0 : Fr (VT T) M (mu M T 4 0) := Fr.rf.put (Or.inr ⟨rfl, rfl⟩)
  have hR1 := VT.sr hT f0 hR
  have hS : Stk (mu M T 4 0) T [] := ⟨mu_self _ _ _ _, fun k hk => by simp at hk⟩
  refine wp_iload_n dX5_worth_0 rfl rfl ?_
  refine wp_if_lt (tgt := 9) dX5_worth_1 (by decide) (fun h => absurd h (by decide)) (fun _ => ?_)
  refine wp_iload_n dX5_worth_4 rfl rfl ?_
  refine wp_iconst dX5_worth_5 (by decide) ?_
  refine wp_icmp_lt (tgt := 11) dX5_worth_6 (by decide) (fun _ => ?_) (fun h => absurd h (by decide))
  refine wp_aload_n dX5_worth_11 rfl rfl ?_
  refine wp_iconst dX5_worth_12 (by decide) ?_
  refine wp_puti T rfl fl_RX5_25 hT.k0 ⟨by omega, by omega⟩ dX5_worth_13 rfl rfl ?_
  refine wp_iload_n dX5_worth_16 rfl rfl ?_
  refine wp_if_ne (tgt := 24) dX5_worth_17 (by decide) (fun _ => ?_) (fun h => absurd h (by decide))
  refine wp_aload_n dX5_worth_24 rfl rfl ?_
  refine wp_get T rfl fl_RX5_15 hT.k0 ⟨by omega, by omega⟩ dX5_worth_25 rfl (v := ((T + 2 : Nat) : Int)) ((mu_nj _ _ _ (by omega)).trans (hT.r1 hR)) ?_
  refine wp_iload_n dX5_worth_28 rfl rfl ?_
  refine wp_iconst dX5_worth_29 (by decide) ?_
  refine wp_isub dX5_worth_30 (by omega) ?_
  refine wp_iald (T + 2) rfl hT.k2 ⟨by omega, by omega⟩ ⟨by omega, by omega⟩ dX5_worth_31 (v := (e0 : Int)) ((mu_ne _ _ _ (by omega) _).trans (he0)) ?_
  refine wp_istore (loc' := [(2, (T : Int)), (0, 2), (2, 16), (0, x), (0, y), (0, (e0 : Int)), (9, 0), (9, 0)]) dX5_worth_32 (Nat.le_of_ble_eq_true rfl) rfl ?_
  refine wp_iload dX5_worth_34 rfl ?_
  refine wp_iconst dX5_worth_36 (by decide) ?_
  refine wp_mmax mm_RX5_28 mms_max ini_RJ9 mmc_max (Nat.le_of_ble_eq_true rfl) (by omega) rfl dX5_worth_37 ?_
  refine wp_istore (loc' := [(2, (T : Int)), (0, 2), (2, 16), (0, x), (0, y), (0, (e0 : Int)), (0, (if (e0 : Int) < 0 then 0 else (e0 : Int))), (9, 0)]) dX5_worth_40 (Nat.le_of_ble_eq_true rfl) rfl ?_
  rw [if_neg (show ¬ (e0 : Int) < 0 by omega)]
  exact lp_worth_16_2 hT hn hR hd x y hx h5 e1 he1 he (fun z => z = run (M (T + 1)) (nmv M 16 false x y) (e1 - e0) e0 []) (fun z M' hz hF hRz => by rw [hz]; exact k M' hF hRz) (e1 - e0) e0 [] _ _ _ (by omega) hS (Nat.zero_le _) f0 hR1 rfl
