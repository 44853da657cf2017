/-! ===== the law: its start, its loop ===== -/
def A0 : Ls := (fun _ => 0, fun _ _ => 0)
def B0 : Mm := fun _ j => if j = 0 then -1 else 0
theorem Wf0 : Wf A0 := ⟨by decide, by decide, by decide, by decide, fun p hp => absurd (show (p : Int) < 0 from hp) (by omega), fun p q _ hq => absurd (show (q : Int) < 0 from hq) (by omega), fun i hi => absurd (show (i : Int) < 0 from hi) (by omega)⟩
theorem cdT_inr {r : TX} {a b c : List Int} (h : cdT r = some (a, b, c)) : ∃ q, r = .inr q ∧ q.1.1 = a ∧ q.2.1.1 = b ∧ q.2.2.1 = c := by
  cases r with
  | inl p => cases h
  | inr q =>
    have h : some (q.1.1, q.2.1.1, q.2.2.1) = some (a, b, c) := h
    have h := Option.some.inj h
    exact ⟨q, rfl, congrArg (fun x => x.1) h, congrArg (fun x => x.2.1) h, congrArg (fun x => x.2.2) h⟩
theorem bt_m0 : BT fmT0 48 := by
  intro i hi
  unfold fmT0
  by_cases c : i < 45
  · rw [if_pos c]
    exact bt_c0 i c
  · rw [if_neg c]
    omega
theorem inv0 {M M' : Mm} (h : INI M) (h' : INM M M') : IV M' A0 A0 B0 0 := by
  obtain ⟨_, _, _, i25, ⟨q, iq, ix⟩, i23, ⟨i20, i21, i22, i2l⟩, i13, i52, i55, ish⟩ := h
  obtain ⟨R, F, j3, j4, j6, j7, j10, j12, j46, j70, j71, j87⟩ := h'
  have e : ∀ i j, i < 69 → M' i j = M i j := fun i j hi => F i j (by omega)
  have x' : TXC M' (27 + 4 * 0) q := ix.frm (fun i j a b _ => e i j (by omega))
  have qv := txt_QV (by decide) iq
  obtain ⟨q1, c1, c2, c3, c4⟩ := cdT_inr cd_c0
  obtain ⟨q2, d1, d2, d3, d4⟩ := cdT_inr cd_m0
  obtain rfl : q = q1 := Sum.inr.inj (iq.symm.trans c1)
  have qv2 := txt_QV (by decide) d1
  have qs := QV_same qv.1 qv2.1 (c2.trans d2.symm) (c3.trans d3.symm) (c4.trans d4.symm)
  have ee := evC_txt (by decide) x' qv.1
  have e25 : M' 25 1 = 1 := (e 25 1 (by omega)).trans i25
  have e23 : M' 23 1 = 0 := (e 23 1 (by omega)).trans i23
  have e52 : M' 52 5 = 0 := (e 52 5 (by omega)).trans i52
  have tx : txOK M' := by
    refine ⟨by rw [e25]; decide, by rw [e25]; decide, fun t ht => ?_⟩
    obtain rfl : t = 0 := by rw [e25] at ht; omega
    obtain ⟨_, l0, l1, l2⟩ := x'
    have ql := qv.2
    rw [l0, l1, l2]
    simp only [List.length_append] at ql ⊢
    have z : (45 : Int).toNat = 45 := rfl
    omega
  have cj : CJ M' A0 := ⟨R, tx, ⟨(e 2 0 (by omega)).trans i20, (e 2 1 (by omega)).trans i21, (e 2 2 (by omega)).trans i22, (e 2 3 (by omega)).trans i2l, fun r i _ hi => absurd (show (i : Int) < 0 from hi) (by omega), fun i hi => absurd (show (i : Int) < 0 from hi) (by omega)⟩, Wf0, by decide, by rw [e25]; decide⟩
  have tl : TXL M' (evC M') := by
    refine ⟨by rw [j3]; decide, by rw [j3]; decide, fun t ht => ?_⟩
    obtain rfl : t = 0 := by rw [j3] at ht; omega
    exact ⟨fmT0, 48, q2, ⟨j71, by decide, by decide, fun i hi => by rw [show 160 * 0 + i = i by omega]; exact j70 i (by omega)⟩, bt_m0, d1, fun x => (ee.1 x).trans (qs.1 x), fun x => (ee.2.1 x).trans (qs.2.1 x), fun x => (ee.2.2 x).trans (qs.2.2 x)⟩
  have mj : MJ M' A0 (evC M') := ⟨R, ⟨j7, j4, j10, j12, fun i hi => absurd (show (i : Int) < 0 from hi) (by omega), fun r i _ hi => absurd (show (i : Int) < 0 from hi) (by omega), fun i hi => absurd (show (i : Int) < 0 from hi) (by omega)⟩, Wf0, ⟨by decide, by rw [j3]; decide⟩, tl⟩
  refine ⟨cj, mj, ⟨by decide, by decide⟩, Or.inl ⟨(e 1 3 (by omega)).trans i13, j46⟩, e25.trans j3.symm, ⟨e23.trans j6.symm, by rw [e23]; decide, by rw [e23]; decide, fun i hi => by rw [e23] at hi; omega⟩, ⟨fun s hs => ⟨(e _ 1 (by omega)).trans (ish s hs).1, (e _ 2 (by omega)).trans (ish s hs).2, fun i hi => absurd (show (i : Int) < 0 from hi) (by omega)⟩, fun s hs => ⟨j87 s hs, fun h => absurd rfl h⟩, fun s _ => Or.inl ⟨rfl, rfl⟩⟩, ⟨by rw [e52]; decide, fun c _ => ?_⟩, by rw [e52]; decide⟩
  rw [e52, e 55 c (by omega), i55 c]
  decide
set_option maxRecDepth 20000 in
set_option maxHeartbeats 4000000 in
theorem law_loop {l : Launch} {g : Gw} {d : Nat} (hd : 100 ≤ d) (hL3 : g.2.2.2.2.1 100 ≤ 3072) : ∀ (m i : Nat) (M : Mm) (A K : Ls) (B : Mm), g.2.2.2.2.1 100 < i + m → i ≤ 3078 → IV M A K B (20 * (i : Int)) → Wp l g d 0 0 90 m_L_law 18 [] [(2, 1015), (2, 1), (2, 69), (0, (i : Int))] M (fun r _ => r = some (0, 1))
  | 0, i, M, A, K, B, hm, hi, hV => by
    refine wp_iload_n dL_law_18 rfl rfl ?_
    refine wp_aload_n dL_law_19 rfl rfl ?_
    refine wp_slen dL_law_20 hL3 ?_
    refine wp_bipush dL_law_21 (by decide) (by decide) ?_
    refine wp_isub dL_law_23 (by omega) ?_
    refine wp_icmp_gt (tgt := 974) dL_law_24 (by decide) (fun _ => ?_) (fun h => absurd h (by omega))
    refine wp_iconst dL_law_974 (by decide) ?_
    exact wp_zret rfl (Or.inr rfl) dL_law_975 rfl
  | m + 1, i, M, A, K, B, hm, hi, hV => by
    refine wp_iload_n dL_law_18 rfl rfl ?_
    refine wp_aload_n dL_law_19 rfl rfl ?_
    refine wp_slen dL_law_20 hL3 ?_
    refine wp_bipush dL_law_21 (by decide) (by decide) ?_
    refine wp_isub dL_law_23 (by omega) ?_
    refine wp_icmp_gt (tgt := 974) dL_law_24 (by decide) (fun _ => ?_) (fun h => ?_)
    · refine wp_iconst dL_law_974 (by decide) ?_
      exact wp_zret rfl (Or.inr rfl) dL_law_975 rfl
    · have hi6 : i + 6 ≤ g.2.2.2.2.1 100 := by omega
      have hk : ∀ M2 A2 K2 B2, IV M2 A2 K2 B2 (20 * (i : Int) + 20) → Wp l g d 0 0 90 m_L_law 968 [] [(2, 1015), (2, 1), (2, 69), (0, (i : Int))] M2 (fun r _ => r = some (0, 1)) := by
        intro M2 A2 K2 B2 h2
        refine wp_iinc (loc' := [(2, 1015), (2, 1), (2, 69), (0, ((i : Int) + 6))]) dL_law_968 rfl (by omega) rfl ?_
        refine wp_goto (tgt := 18) dL_law_971 (by decide) ?_
        have h3 := law_loop (l := l) hd hL3 m (i + 6) M2 A2 K2 B2 (by omega) (by omega) (h2.le (by omega))
        rw [show (((i + 6 : Nat)) : Int) = (i : Int) + 6 by omega] at h3
        exact h3
      refine wp_aload_n dL_law_27 rfl rfl ?_
      refine wp_iload_n dL_law_28 rfl rfl ?_
      refine wp_sld (by omega) dL_law_29 ?_
      refine wp_bipush dL_law_30 (by decide) (by decide) ?_
      refine wp_iand dL_law_32 ?_
      generalize bnd (scI g ((i : Int)).toNat).toInt 31 = y
      by_cases c0 : y = 0
      · exact wp_tabIn (tgt := 156) dL_law_33 0 (by omega) (by decide) rfl (by decide) (op_set hd hL3 hi6 hV (by omega) hk)
      by_cases c1 : y = 1
      · exact wp_tabIn (tgt := 199) dL_law_33 1 (by omega) (by decide) rfl (by decide) (op_person hd hL3 hi6 hV (by omega) hk)
      by_cases c2 : y = 2
      · exact wp_tabIn (tgt := 232) dL_law_33 2 (by omega) (by decide) rfl (by decide) (op_told hd hL3 hi6 hV (by omega) hk)
      by_cases c3 : y = 3
      · exact wp_tabIn (tgt := 265) dL_law_33 3 (by omega) (by decide) rfl (by decide) (op_feed hd hL3 hi6 hV (by omega) hk)
      by_cases c4 : y = 4
      · exact wp_tabIn (tgt := 288) dL_law_33 4 (by omega) (by decide) rfl (by decide) (op_text hd hL3 hi6 hV (by omega) hk)
      by_cases c5 : y = 5
      · exact wp_tabIn (tgt := 301) dL_law_33 5 (by omega) (by decide) rfl (by decide) (op_force hd hL3 hi6 hV (by omega) hk)
      by_cases c6 : y = 6
      · exact wp_tabIn (tgt := 324) dL_law_33 6 (by omega) (by decide) rfl (by decide) (op_first hd hL3 hi6 hV (by omega) hk)
      by_cases c7 : y = 7
      · exact wp_tabIn (tgt := 347) dL_law_33 7 (by omega) (by decide) rfl (by decide) (op_pass hd hL3 hi6 hV (by omega) hk)
      by_cases c8 : y = 8
      · exact wp_tabIn (tgt := 370) dL_law_33 8 (by omega) (by decide) rfl (by decide) (op_haste hd hL3 hi6 hV (by omega) hk)
      by_cases c9 : y = 9
      · exact wp_tabIn (tgt := 383) dL_law_33 9 (by omega) (by decide) rfl (by decide) (op_minute hd hL3 hi6 hV (by omega) hk)
      by_cases c10 : y = 10
      · exact wp_tabIn (tgt := 396) dL_law_33 10 (by omega) (by decide) rfl (by decide) (op_come hd hL3 hi6 hV (by omega) hk)
      by_cases c11 : y = 11
      · exact wp_tabIn (tgt := 419) dL_law_33 11 (by omega) (by decide) rfl (by decide) (op_orders hd hL3 hi6 hV (by omega) hk)
      by_cases c12 : y = 12
      · exact wp_tabIn (tgt := 442) dL_law_33 12 (by omega) (by decide) rfl (by decide) (op_fewest hd hL3 hi6 hV (by omega) hk)
      by_cases c13 : y = 13
      · exact wp_tabIn (tgt := 465) dL_law_33 13 (by omega) (by decide) rfl (by decide) (op_ahead hd hL3 hi6 hV (by omega) hk)
      by_cases c14 : y = 14
      · exact wp_tabIn (tgt := 498) dL_law_33 14 (by omega) (by decide) rfl (by decide) (op_run hd hL3 hi6 hV (by omega) hk)
      by_cases c15 : y = 15
      · exact wp_tabIn (tgt := 531) dL_law_33 15 (by omega) (by decide) rfl (by decide) (op_tells hd hL3 hi6 hV (by omega) hk)
      by_cases c16 : y = 16
      · exact wp_tabIn (tgt := 574) dL_law_33 16 (by omega) (by decide) rfl (by decide) (op_film hd hL3 hi6 hV (by omega) hk)
      by_cases c17 : y = 17
      · exact wp_tabIn (tgt := 607) dL_law_33 17 (by omega) (by decide) rfl (by decide) (op_drawn hd hL3 hi6 hV (by omega) hk)
      by_cases c18 : y = 18
      · exact wp_tabIn (tgt := 630) dL_law_33 18 (by omega) (by decide) rfl (by decide) (op_chance hd hL3 hi6 hV (by omega) hk)
      by_cases c19 : y = 19
      · exact wp_tabIn (tgt := 684) dL_law_33 19 (by omega) (by decide) rfl (by decide) (op_image hd hL3 hi6 hV (by omega) hk)
      by_cases c20 : y = 20
      · exact wp_tabIn (tgt := 697) dL_law_33 20 (by omega) (by decide) rfl (by decide) (op_back hd hL3 hi6 hV (by omega) hk)
      by_cases c21 : y = 21
      · exact wp_tabIn (tgt := 710) dL_law_33 21 (by omega) (by decide) rfl (by decide) (op_count hd hL3 hi6 hV (by omega) hk)
      by_cases c22 : y = 22
      · exact wp_tabIn (tgt := 733) dL_law_33 22 (by omega) (by decide) rfl (by decide) (op_sheet hd hL3 hi6 hV (by omega) hk)
      by_cases c23 : y = 23
      · exact wp_tabIn (tgt := 776) dL_law_33 23 (by omega) (by decide) rfl (by decide) (op_cell hd hL3 hi6 hV (by omega) hk)
      by_cases c24 : y = 24
      · exact wp_tabIn (tgt := 819) dL_law_33 24 (by omega) (by decide) rfl (by decide) (op_copy hd hL3 hi6 hV (by omega) hk)
      by_cases c25 : y = 25
      · exact wp_tabIn (tgt := 882) dL_law_33 25 (by omega) (by decide) rfl (by decide) (op_people hd hL3 hi6 hV (by omega) hk)
      by_cases c26 : y = 26
      · exact wp_tabIn (tgt := 935) dL_law_33 26 (by omega) (by decide) rfl (by decide) (op_taken hd hL3 hi6 hV (by omega) hk)
      exact wp_tabOut (tgt := 968) dL_law_33 (by omega) (by decide) (hk M A K B (hV.le (by omega)))
set_option maxRecDepth 20000 in
set_option maxHeartbeats 4000000 in
theorem law_all {l : Launch} {g : Gw} {d : Nat} (hd : 100 ≤ d) (hL3 : g.2.2.2.2.1 100 ≤ 3072) : Wp l g d 90 7585 0 m_L_law 0 [] [(2, 1015), (9, 0), (9, 0), (9, 0)] Z0 (fun r _ => r = some (0, 1)) := by
  refine wp_new (a := 89) (b := 7576) (c := 7) (N := 9) rfl (by decide) (by decide) cl_RL_7 ins_RX7 ini_RX7 dL_law_0 ?_
  change Wp _ _ _ 89 7576 1 _ _ ((2, 1) :: _) _ _ _
  refine wp_dup dL_law_3 (Or.inr rfl) ?_
  refine wp_callI (a1 := 67) (b1 := 5860) (a := 22) (b := 1716) (d' := d - 1) ci_RL_9 rfl 1 rfl [] [(2, 1)] rfl rfl (by decide) (Nat.le_of_ble_eq_true rfl) dL_law_4 rfl (Nat.le_of_ble_eq_true rfl) (by omega) ?_
  change Wp _ _ _ 67 5860 1 m_X7_init 0 [] [(2, 1), (9, 0)] _ _
  refine init_a (by omega) (init_b (by omega) (fun M hI => ?_))
  change Wp _ _ _ 22 1716 68 _ _ [(2, 1)] _ _ _
  refine wp_astore_n (loc' := [(2, 1015), (2, 1), (9, 0), (9, 0)]) dL_law_7 rfl (Nat.le_of_ble_eq_true rfl) rfl ?_
  refine wp_new (a := 21) (b := 1663) (c := 8) (N := 53) rfl (by decide) (by decide) cl_RL_10 ins_RX8 ini_RX8 dL_law_8 ?_
  change Wp _ _ _ 21 1663 69 _ _ ((2, 69) :: _) _ _ _
  refine wp_dup dL_law_11 (Or.inr rfl) ?_
  refine wp_callI (a1 := 21) (b1 := 1663) (a := 0) (b := 0) (d' := d - 1) ci_RL_12 rfl 69 rfl [] [(2, 69)] rfl rfl (by decide) (Nat.le_of_ble_eq_true rfl) dL_law_12 rfl (Nat.le_of_ble_eq_true rfl) (by omega) ?_
  change Wp _ _ _ 21 1663 69 m_X8_init 0 [] [(2, 69)] _ _
  refine cm_init (by omega) hI (fun M' hM => ?_)
  change Wp _ _ _ 0 0 90 _ _ [(2, 69)] _ _ _
  refine wp_astore_n (loc' := [(2, 1015), (2, 1), (2, 69), (9, 0)]) dL_law_15 rfl (Nat.le_of_ble_eq_true rfl) rfl ?_
  refine wp_iconst dL_law_16 (by decide) ?_
  refine wp_istore_n (loc' := [(2, 1015), (2, 1), (2, 69), (0, 0)]) dL_law_17 rfl (Nat.le_of_ble_eq_true rfl) rfl ?_
  exact law_loop hd hL3 (g.2.2.2.2.1 100 + 1) 0 M' A0 A0 B0 (by omega) (by omega) (inv0 hI hM)
