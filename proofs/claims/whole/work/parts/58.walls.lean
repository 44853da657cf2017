/-! ===== walls, rings ===== -/
set_option maxRecDepth 20000 in
set_option maxHeartbeats 4000000 in
theorem lp_walls_2  {l : Launch} {g : Gw} {d n : Nat} {M : Mm} {Q : Option Wd → Mm → Prop} (hn : 60 ≤ n) (hd : 3 ≤ d) {A : Ls} {E : Ev} (hJ : FJ 2 M A E) (k : Q (some (0, bnd (wlA A (lnA A).length) (bxr (findA (cnA E A) (lnA A)).2 (-1)))) M) : ∀ (m p : Nat) (u : Wd), p + m = (lnA A).length → Wp l g d 0 0 n m_X3_walls 4 [] [(2, 52), (0, wlA A p), (0, (p : Int)), u] M Q := by
  obtain ⟨hQ, hS, hAB, hLq⟩ := id hJ
  obtain ⟨hR, hA, hW, hLd, hL, hN, hxm, hT⟩ := id hQ
  obtain ⟨hF, hI, hP, hPB⟩ := id hS
  have h120 := hPB.le hN
  have h3 := hF.1
  have h3f : M 52 3 = ((flA E A).length : Int) := hF.1
  have h120f : (flA E A).length ≤ 120 := h120
  obtain ⟨a0, a1, a2, a3, ar, al⟩ := id hA
  obtain ⟨w0, w1, w2, w3, w4, w5, w6⟩ := id hW
  have ll := lnA_len A
  intro m
  induction m with
  | zero =>
    intro p u hp
    refine wp_iload_n dX3_walls_4 rfl rfl ?_
    refine wp_aload_n dX3_walls_5 rfl rfl ?_
    refine wp_get 52 rfl fl_RX3_57 rfl ⟨by omega, by omega⟩ dX3_walls_6 rfl (v := (M 52 11)) (rfl) ?_
    refine wp_icmp_ge (tgt := 44) dX3_walls_9 (by decide) (fun _ => ?_) (fun h => absurd h (by omega))
    refine wp_iload_n dX3_walls_44 rfl rfl ?_
    refine wp_aload_n dX3_walls_45 rfl rfl ?_
    refine wp_get 52 rfl fl_RX3_61 rfl ⟨by omega, by omega⟩ dX3_walls_46 rfl (v := (findA (cnA E A) (lnA A)).2) (hP) ?_
    refine wp_iconst dX3_walls_49 (by decide) ?_
    refine wp_ixor dX3_walls_50 ?_
    refine wp_iand dX3_walls_51 ?_
    refine wp_iret rfl dX3_walls_52 ?_
    have hpN : p = (lnA A).length := by omega
    rw [hpN]
    exact k
  | succ m ih =>
    intro p u hp
    refine wp_iload_n dX3_walls_4 rfl rfl ?_
    refine wp_aload_n dX3_walls_5 rfl rfl ?_
    refine wp_get 52 rfl fl_RX3_57 rfl ⟨by omega, by omega⟩ dX3_walls_6 rfl (v := (M 52 11)) (rfl) ?_
    refine wp_icmp_ge (tgt := 44) dX3_walls_9 (by decide) (fun h => absurd h (by omega)) (fun _ => ?_)
    refine wp_aload_n dX3_walls_12 rfl rfl ?_
    refine wp_get 52 rfl fl_RX3_38 rfl ⟨by omega, by omega⟩ dX3_walls_13 rfl (v := 2) (hLd) ?_
    refine wp_iload_n dX3_walls_16 rfl rfl ?_
    refine wp_callV0 (d' := d - 1) cv_RX3_70 2 rfl [(0, (p : Int))] [] rfl rfl (Or.inl ⟨_, _, rfl, by decide, rfl, by omega, by omega⟩) (by omega) (Nat.le_of_ble_eq_true rfl) dX3_walls_17 rfl (Nat.le_of_ble_eq_true rfl) (by omega) (loc1 := [(2, 2), (0, (p : Int))]) rfl ?_
    refine sp_at_2 hn hR (p : Int) (fun _ => ?_) (fun h => absurd (by omega) h)
    rw [show M 8 ((p : Int)).toNat = A.2 5 p from al p (by omega)]
    refine wp_istore_n (loc' := [(2, 52), (0, (wlA A p)), (0, (p : Int)), (0, (A.2 5 p))]) dX3_walls_20 rfl (Nat.le_of_ble_eq_true rfl) rfl ?_
    refine wp_aload_n dX3_walls_21 rfl rfl ?_
    refine wp_get 52 rfl fl_RX3_38 rfl ⟨by omega, by omega⟩ dX3_walls_22 rfl (v := 2) (hLd) ?_
    refine wp_iload_n dX3_walls_25 rfl rfl ?_
    refine wp_callV0 (d' := d - 1) cv_RX3_81 2 rfl [(0, (A.2 5 p))] [] rfl rfl (Or.inl ⟨_, _, rfl, by decide, rfl, by omega, by omega⟩) (by omega) (Nat.le_of_ble_eq_true rfl) dX3_walls_26 rfl (Nat.le_of_ble_eq_true rfl) (by omega) (loc1 := [(2, 2), (0, (A.2 5 p))]) rfl ?_
    have hv := w4 p (by omega)
    refine sp_has_2 hn (A.2 5 p) (fun _ => ?_) (fun h => absurd (by omega) h)
    refine wp_if_eq (tgt := 38) dX3_walls_29 (by decide) (fun h => absurd h (by decide)) (fun _ => ?_)
    refine wp_iload_n dX3_walls_32 rfl rfl ?_
    refine wp_iconst dX3_walls_33 (by decide) ?_
    refine wp_iload_n dX3_walls_34 rfl rfl ?_
    refine wp_ishl dX3_walls_35 ?_
    refine wp_ior dX3_walls_36 ?_
    refine wp_istore_n (loc' := [(2, 52), (0, (bor (wlA A p) (shl 1 (A.2 5 p)))), (0, (p : Int)), (0, (A.2 5 p))]) dX3_walls_37 rfl (Nat.le_of_ble_eq_true rfl) rfl ?_
    refine wp_iinc (loc' := [(2, 52), (0, (bor (wlA A p) (shl 1 (A.2 5 p)))), (0, ((p : Int) + 1)), (0, (A.2 5 p))]) dX3_walls_38 rfl (by omega) rfl ?_
    refine wp_goto (tgt := 4) dX3_walls_41 (by decide) ?_
    exact ih (p + 1) _ (by omega)
set_option maxRecDepth 20000 in
set_option maxHeartbeats 4000000 in
theorem sp_walls_2 {l : Launch} {g : Gw} {d n : Nat} {M : Mm} {Q : Option Wd → Mm → Prop} (hn : 60 ≤ n) (hd : 3 ≤ d) {A : Ls} {E : Ev} (hJ : FJ 2 M A E) (k : Q (some (0, bnd (wlA A (lnA A).length) (bxr (findA (cnA E A) (lnA A)).2 (-1)))) M) : Wp l g d 0 0 n m_X3_walls 0 [] [(2, 52), (9, 0), (9, 0), (9, 0)] M Q := by
  obtain ⟨hQ, hS, hAB, hLq⟩ := id hJ
  obtain ⟨hR, hA, hW, hLd, hL, hN, hxm, hT⟩ := id hQ
  obtain ⟨hF, hI, hP, hPB⟩ := id hS
  have h120 := hPB.le hN
  have h3 := hF.1
  have h3f : M 52 3 = ((flA E A).length : Int) := hF.1
  have h120f : (flA E A).length ≤ 120 := h120
  refine wp_iconst dX3_walls_0 (by decide) ?_
  refine wp_istore_n (loc' := [(2, 52), (0, 0), (9, 0), (9, 0)]) dX3_walls_1 rfl (Nat.le_of_ble_eq_true rfl) rfl ?_
  refine wp_iconst dX3_walls_2 (by decide) ?_
  refine wp_istore_n (loc' := [(2, 52), (0, 0), (0, 0), (9, 0)]) dX3_walls_3 rfl (Nat.le_of_ble_eq_true rfl) rfl ?_
  exact lp_walls_2 hn hd hJ k (lnA A).length 0 _ (by omega)
set_option maxRecDepth 20000 in
set_option maxHeartbeats 4000000 in
theorem lp_ringsI_2  {l : Launch} {g : Gw} {d n : Nat} {M : Mm} {Q : Option Wd → Mm → Prop} (hn : 60 ≤ n) (hd : 3 ≤ d) {A : Ls} {E : Ev} (hJ : FJ 2 M A E) {p : Nat} (hp : p < (lnA A).length) : ∀ (m q : Nat) (c : Int), q + m = (lnA A).length → p < q → (0 ≤ c ∧ c ≤ 100 - m) → (∀ u, Wp l g d 0 0 n m_X3_rings 79 [] [(2, 52), (0, rgI E A p m q c), (0, (p : Int)), u] M Q) → Wp l g d 0 0 n m_X3_rings 16 [] [(2, 52), (0, c), (0, (p : Int)), (0, (q : Int))] M Q := by
  obtain ⟨hQ, hS, hAB, hLq⟩ := id hJ
  obtain ⟨hR, hA, hW, hLd, hL, hN, hxm, hT⟩ := id hQ
  obtain ⟨hF, hI, hP, hPB⟩ := id hS
  have h120 := hPB.le hN
  have h3 := hF.1
  have h3f : M 52 3 = ((flA E A).length : Int) := hF.1
  have h120f : (flA E A).length ≤ 120 := h120
  obtain ⟨a0, a1, a2, a3, ar, al⟩ := id hA
  obtain ⟨w0, w1, w2, w3, w4, w5, w6⟩ := id hW
  have ll := lnA_len A
  have mp : A.2 5 p ∈ lnA A := lnA_mem.mpr ⟨p, by omega, rfl⟩
  intro m
  induction m with
  | zero =>
    intro q c hq hpq hc k
    refine wp_iload_n dX3_rings_16 rfl rfl ?_
    refine wp_aload_n dX3_rings_17 rfl rfl ?_
    refine wp_get 52 rfl fl_RX3_57 rfl ⟨by omega, by omega⟩ dX3_rings_18 rfl (v := (M 52 11)) (rfl) ?_
    refine wp_icmp_ge (tgt := 79) dX3_rings_21 (by decide) (fun _ => ?_) (fun h => absurd h (by omega))
    exact k _
  | succ m ih =>
    intro q c hq hpq hc k
    have mq : A.2 5 q ∈ lnA A := lnA_mem.mpr ⟨q, by omega, rfl⟩
    refine wp_iload_n dX3_rings_16 rfl rfl ?_
    refine wp_aload_n dX3_rings_17 rfl rfl ?_
    refine wp_get 52 rfl fl_RX3_57 rfl ⟨by omega, by omega⟩ dX3_rings_18 rfl (v := (M 52 11)) (rfl) ?_
    refine wp_icmp_ge (tgt := 79) dX3_rings_21 (by decide) (fun h => absurd h (by omega)) (fun _ => ?_)
    refine wp_aload_n dX3_rings_24 rfl rfl ?_
    refine wp_aload_n dX3_rings_25 rfl rfl ?_
    refine wp_get 52 rfl fl_RX3_38 rfl ⟨by omega, by omega⟩ dX3_rings_26 rfl (v := 2) (hLd) ?_
    refine wp_iload_n dX3_rings_29 rfl rfl ?_
    refine wp_callV0 (d' := d - 1) cv_RX3_70 2 rfl [(0, (p : Int))] [(2, 52)] rfl rfl (Or.inl ⟨_, _, rfl, by decide, rfl, by omega, by omega⟩) (by omega) (Nat.le_of_ble_eq_true rfl) dX3_rings_30 rfl (Nat.le_of_ble_eq_true rfl) (by omega) (loc1 := [(2, 2), (0, (p : Int))]) rfl ?_
    refine sp_at_2 hn hR (p : Int) (fun _ => ?_) (fun h => absurd (by omega) h)
    rw [show M 8 ((p : Int)).toNat = A.2 5 p from al p (by omega)]
    refine wp_aload_n dX3_rings_33 rfl rfl ?_
    refine wp_get 52 rfl fl_RX3_38 rfl ⟨by omega, by omega⟩ dX3_rings_34 rfl (v := 2) (hLd) ?_
    refine wp_iload_n dX3_rings_37 rfl rfl ?_
    refine wp_callV0 (d' := d - 1) cv_RX3_70 2 rfl [(0, (q : Int))] [(0, (A.2 5 p)), (2, 52)] rfl rfl (Or.inl ⟨_, _, rfl, by decide, rfl, by omega, by omega⟩) (by omega) (Nat.le_of_ble_eq_true rfl) dX3_rings_38 rfl (Nat.le_of_ble_eq_true rfl) (by omega) (loc1 := [(2, 2), (0, (q : Int))]) rfl ?_
    refine sp_at_2 hn hR (q : Int) (fun _ => ?_) (fun h => absurd (by omega) h)
    rw [show M 8 ((q : Int)).toNat = A.2 5 q from al q (by omega)]
    refine wp_callV0 (d' := d - 1) cv_RX3_105 52 rfl [(0, (A.2 5 p)), (0, (A.2 5 q))] [] rfl rfl (Or.inl ⟨_, _, rfl, by decide, rfl, by omega, by omega⟩) (by omega) (Nat.le_of_ble_eq_true rfl) dX3_rings_41 rfl (Nat.le_of_ble_eq_true rfl) (by omega) (loc1 := [(2, 52), (0, (A.2 5 p)), (0, (A.2 5 q))]) rfl ?_
    refine sp_mindsT_2 hn (by omega) hQ mp mq (fun h41m => ?_) (fun h41m => ?_)
    · refine wp_if_ne (tgt := 73) dX3_rings_44 (by decide) (fun _ => ?_) (fun h => absurd h (by decide))
      refine wp_iinc (loc' := [(2, 52), (0, c), (0, (p : Int)), (0, ((q : Int) + 1))]) dX3_rings_73 rfl (by omega) rfl ?_
      refine wp_goto (tgt := 16) dX3_rings_76 (by decide) ?_
      have e : rgI E A p (m + 1) q c = rgI E A p m (q + 1) c := by
        show rgI E A p m (q + 1) (if _ then _ else _) = _
        rw [if_neg (fun z => by first | exact absurd (h64m.symm.trans z.2) (by decide) | exact absurd (h41m.symm.trans z.1) (by decide))]
      rw [e] at k
      exact ih (q + 1) _ (by omega) (by omega) (by omega) k
    · refine wp_if_ne (tgt := 73) dX3_rings_44 (by decide) (fun h => absurd h (by decide)) (fun _ => ?_)
      refine wp_aload_n dX3_rings_47 rfl rfl ?_
      refine wp_aload_n dX3_rings_48 rfl rfl ?_
      refine wp_get 52 rfl fl_RX3_38 rfl ⟨by omega, by omega⟩ dX3_rings_49 rfl (v := 2) (hLd) ?_
      refine wp_iload_n dX3_rings_52 rfl rfl ?_
      refine wp_callV0 (d' := d - 1) cv_RX3_70 2 rfl [(0, (q : Int))] [(2, 52)] rfl rfl (Or.inl ⟨_, _, rfl, by decide, rfl, by omega, by omega⟩) (by omega) (Nat.le_of_ble_eq_true rfl) dX3_rings_53 rfl (Nat.le_of_ble_eq_true rfl) (by omega) (loc1 := [(2, 2), (0, (q : Int))]) rfl ?_
      refine sp_at_2 hn hR (q : Int) (fun _ => ?_) (fun h => absurd (by omega) h)
      rw [show M 8 ((q : Int)).toNat = A.2 5 q from al q (by omega)]
      refine wp_aload_n dX3_rings_56 rfl rfl ?_
      refine wp_get 52 rfl fl_RX3_38 rfl ⟨by omega, by omega⟩ dX3_rings_57 rfl (v := 2) (hLd) ?_
      refine wp_iload_n dX3_rings_60 rfl rfl ?_
      refine wp_callV0 (d' := d - 1) cv_RX3_70 2 rfl [(0, (p : Int))] [(0, (A.2 5 q)), (2, 52)] rfl rfl (Or.inl ⟨_, _, rfl, by decide, rfl, by omega, by omega⟩) (by omega) (Nat.le_of_ble_eq_true rfl) dX3_rings_61 rfl (Nat.le_of_ble_eq_true rfl) (by omega) (loc1 := [(2, 2), (0, (p : Int))]) rfl ?_
      refine sp_at_2 hn hR (p : Int) (fun _ => ?_) (fun h => absurd (by omega) h)
      rw [show M 8 ((p : Int)).toNat = A.2 5 p from al p (by omega)]
      refine wp_callV0 (d' := d - 1) cv_RX3_105 52 rfl [(0, (A.2 5 q)), (0, (A.2 5 p))] [] rfl rfl (Or.inl ⟨_, _, rfl, by decide, rfl, by omega, by omega⟩) (by omega) (Nat.le_of_ble_eq_true rfl) dX3_rings_64 rfl (Nat.le_of_ble_eq_true rfl) (by omega) (loc1 := [(2, 52), (0, (A.2 5 q)), (0, (A.2 5 p))]) rfl ?_
      refine sp_mindsT_2 hn (by omega) hQ mq mp (fun h64m => ?_) (fun h64m => ?_)
      · refine wp_if_ne (tgt := 73) dX3_rings_67 (by decide) (fun _ => ?_) (fun h => absurd h (by decide))
        refine wp_iinc (loc' := [(2, 52), (0, c), (0, (p : Int)), (0, ((q : Int) + 1))]) dX3_rings_73 rfl (by omega) rfl ?_
        refine wp_goto (tgt := 16) dX3_rings_76 (by decide) ?_
        have e : rgI E A p (m + 1) q c = rgI E A p m (q + 1) c := by
          show rgI E A p m (q + 1) (if _ then _ else _) = _
          rw [if_neg (fun z => by first | exact absurd (h64m.symm.trans z.2) (by decide) | exact absurd (h41m.symm.trans z.1) (by decide))]
        rw [e] at k
        exact ih (q + 1) _ (by omega) (by omega) (by omega) k
      · refine wp_if_ne (tgt := 73) dX3_rings_67 (by decide) (fun h => absurd h (by decide)) (fun _ => ?_)
        refine wp_iinc (loc' := [(2, 52), (0, (c + 1)), (0, (p : Int)), (0, (q : Int))]) dX3_rings_70 rfl (by omega) rfl ?_
        refine wp_iinc (loc' := [(2, 52), (0, (c + 1)), (0, (p : Int)), (0, ((q : Int) + 1))]) dX3_rings_73 rfl (by omega) rfl ?_
        refine wp_goto (tgt := 16) dX3_rings_76 (by decide) ?_
        have e : rgI E A p (m + 1) q c = rgI E A p m (q + 1) (c + 1) := by
          show rgI E A p m (q + 1) (if _ then _ else _) = _
          rw [if_pos ⟨h41m, h64m⟩]
        rw [e] at k
        exact ih (q + 1) _ (by omega) (by omega) (by omega) k
set_option maxRecDepth 20000 in
set_option maxHeartbeats 4000000 in
theorem lp_ringsO_2  {l : Launch} {g : Gw} {d n : Nat} {M : Mm} {Q : Option Wd → Mm → Prop} (hn : 60 ≤ n) (hd : 3 ≤ d) {A : Ls} {E : Ev} (hJ : FJ 2 M A E) : ∀ (m p : Nat) (c : Int) (u : Wd), p + m = (lnA A).length → (0 ≤ c ∧ c ≤ 5 * (p : Int)) → Q (some (0, rgO E A (lnA A).length m p c)) M → Wp l g d 0 0 n m_X3_rings 4 [] [(2, 52), (0, c), (0, (p : Int)), u] M Q := by
  obtain ⟨hQ, hS, hAB, hLq⟩ := id hJ
  obtain ⟨hR, hA, hW, hLd, hL, hN, hxm, hT⟩ := id hQ
  obtain ⟨hF, hI, hP, hPB⟩ := id hS
  have h120 := hPB.le hN
  have h3 := hF.1
  have h3f : M 52 3 = ((flA E A).length : Int) := hF.1
  have h120f : (flA E A).length ≤ 120 := h120
  obtain ⟨a0, a1, a2, a3, ar, al⟩ := id hA
  obtain ⟨w0, w1, w2, w3, w4, w5, w6⟩ := id hW
  have ll := lnA_len A
  intro m
  induction m with
  | zero =>
    intro p c u hp hc k
    refine wp_iload_n dX3_rings_4 rfl rfl ?_
    refine wp_aload_n dX3_rings_5 rfl rfl ?_
    refine wp_get 52 rfl fl_RX3_57 rfl ⟨by omega, by omega⟩ dX3_rings_6 rfl (v := (M 52 11)) (rfl) ?_
    refine wp_icmp_ge (tgt := 85) dX3_rings_9 (by decide) (fun _ => ?_) (fun h => absurd h (by omega))
    refine wp_iload_n dX3_rings_85 rfl rfl ?_
    refine wp_iret rfl dX3_rings_86 ?_
    exact k
  | succ m ih =>
    intro p c u hp hc k
    refine wp_iload_n dX3_rings_4 rfl rfl ?_
    refine wp_aload_n dX3_rings_5 rfl rfl ?_
    refine wp_get 52 rfl fl_RX3_57 rfl ⟨by omega, by omega⟩ dX3_rings_6 rfl (v := (M 52 11)) (rfl) ?_
    refine wp_icmp_ge (tgt := 85) dX3_rings_9 (by decide) (fun h => absurd h (by omega)) (fun _ => ?_)
    refine wp_iload_n dX3_rings_12 rfl rfl ?_
    refine wp_iconst dX3_rings_13 (by decide) ?_
    refine wp_iadd dX3_rings_14 (by omega) ?_
    refine wp_istore_n (loc' := [(2, 52), (0, c), (0, (p : Int)), (0, ((p : Int) + 1))]) dX3_rings_15 rfl (Nat.le_of_ble_eq_true rfl) rfl ?_
    have rr := rgI_r E A p ((lnA A).length - (p + 1)) (p + 1) c
    refine lp_ringsI_2 hn hd hJ (p := p) (by omega) ((lnA A).length - (p + 1)) (p + 1) c (by omega) (by omega) (by omega) (fun u2 => ?_)
    refine wp_iinc (loc' := [(2, 52), (0, (rgI E A p ((lnA A).length - (p + 1)) (p + 1) c)), (0, ((p : Int) + 1)), u2]) dX3_rings_79 rfl (by omega) rfl ?_
    refine wp_goto (tgt := 4) dX3_rings_82 (by decide) ?_
    exact ih (p + 1) _ _ (by omega) (by omega) k
set_option maxRecDepth 20000 in
set_option maxHeartbeats 4000000 in
theorem sp_rings_2 {l : Launch} {g : Gw} {d n : Nat} {M : Mm} {Q : Option Wd → Mm → Prop} (hn : 60 ≤ n) (hd : 3 ≤ d) {A : Ls} {E : Ev} (hJ : FJ 2 M A E) (k : Q (some (0, rgO E A (lnA A).length (lnA A).length 0 0)) M) : Wp l g d 0 0 n m_X3_rings 0 [] [(2, 52), (9, 0), (9, 0), (9, 0)] M Q := by
  obtain ⟨hQ, hS, hAB, hLq⟩ := id hJ
  obtain ⟨hR, hA, hW, hLd, hL, hN, hxm, hT⟩ := id hQ
  obtain ⟨hF, hI, hP, hPB⟩ := id hS
  have h120 := hPB.le hN
  have h3 := hF.1
  have h3f : M 52 3 = ((flA E A).length : Int) := hF.1
  have h120f : (flA E A).length ≤ 120 := h120
  refine wp_iconst dX3_rings_0 (by decide) ?_
  refine wp_istore_n (loc' := [(2, 52), (0, 0), (9, 0), (9, 0)]) dX3_rings_1 rfl (Nat.le_of_ble_eq_true rfl) rfl ?_
  refine wp_iconst dX3_rings_2 (by decide) ?_
  refine wp_istore_n (loc' := [(2, 52), (0, 0), (0, 0), (9, 0)]) dX3_rings_3 rfl (Nat.le_of_ble_eq_true rfl) rfl ?_
  exact lp_ringsO_2 hn hd hJ (lnA A).length 0 0 _ (by omega) (by omega) k
set_option maxRecDepth 20000 in
set_option maxHeartbeats 4000000 in
theorem lp_walls_16  {l : Launch} {g : Gw} {d n : Nat} {M : Mm} {Q : Option Wd → Mm → Prop} (hn : 60 ≤ n) (hd : 3 ≤ d) {A : Ls} {E : Ev} (hJ : FJ 16 M A E) (k : Q (some (0, bnd (wlA A (lnA A).length) (bxr (findA (cnA E A) (lnA A)).2 (-1)))) M) : ∀ (m p : Nat) (u : Wd), p + m = (lnA A).length → Wp l g d 0 0 n m_X3_walls 4 [] [(2, 52), (0, wlA A p), (0, (p : Int)), u] M Q := by
  obtain ⟨hQ, hS, hAB, hLq⟩ := id hJ
  obtain ⟨hR, hA, hW, hLd, hL, hN, hxm, hT⟩ := id hQ
  obtain ⟨hF, hI, hP, hPB⟩ := id hS
  have h120 := hPB.le hN
  have h3 := hF.1
  have h3f : M 52 3 = ((flA E A).length : Int) := hF.1
  have h120f : (flA E A).length ≤ 120 := h120
  obtain ⟨a0, a1, a2, a3, ar, al⟩ := id hA
  obtain ⟨w0, w1, w2, w3, w4, w5, w6⟩ := id hW
  have ll := lnA_len A
  intro m
  induction m with
  | zero =>
    intro p u hp
    refine wp_iload_n dX3_walls_4 rfl rfl ?_
    refine wp_aload_n dX3_walls_5 rfl rfl ?_
    refine wp_get 52 rfl fl_RX3_57 rfl ⟨by omega, by omega⟩ dX3_walls_6 rfl (v := (M 52 11)) (rfl) ?_
    refine wp_icmp_ge (tgt := 44) dX3_walls_9 (by decide) (fun _ => ?_) (fun h => absurd h (by omega))
    refine wp_iload_n dX3_walls_44 rfl rfl ?_
    refine wp_aload_n dX3_walls_45 rfl rfl ?_
    refine wp_get 52 rfl fl_RX3_61 rfl ⟨by omega, by omega⟩ dX3_walls_46 rfl (v := (findA (cnA E A) (lnA A)).2) (hP) ?_
    refine wp_iconst dX3_walls_49 (by decide) ?_
    refine wp_ixor dX3_walls_50 ?_
    refine wp_iand dX3_walls_51 ?_
    refine wp_iret rfl dX3_walls_52 ?_
    have hpN : p = (lnA A).length := by omega
    rw [hpN]
    exact k
  | succ m ih =>
    intro p u hp
    refine wp_iload_n dX3_walls_4 rfl rfl ?_
    refine wp_aload_n dX3_walls_5 rfl rfl ?_
    refine wp_get 52 rfl fl_RX3_57 rfl ⟨by omega, by omega⟩ dX3_walls_6 rfl (v := (M 52 11)) (rfl) ?_
    refine wp_icmp_ge (tgt := 44) dX3_walls_9 (by decide) (fun h => absurd h (by omega)) (fun _ => ?_)
    refine wp_aload_n dX3_walls_12 rfl rfl ?_
    refine wp_get 52 rfl fl_RX3_38 rfl ⟨by omega, by omega⟩ dX3_walls_13 rfl (v := 16) (hLd) ?_
    refine wp_iload_n dX3_walls_16 rfl rfl ?_
    refine wp_callV0 (d' := d - 1) cv_RX3_70 16 rfl [(0, (p : Int))] [] rfl rfl (Or.inl ⟨_, _, rfl, by decide, rfl, by omega, by omega⟩) (by omega) (Nat.le_of_ble_eq_true rfl) dX3_walls_17 rfl (Nat.le_of_ble_eq_true rfl) (by omega) (loc1 := [(2, 16), (0, (p : Int))]) rfl ?_
    refine sp_at_16 hn hR (p : Int) (fun _ => ?_) (fun h => absurd (by omega) h)
    rw [show M 22 ((p : Int)).toNat = A.2 5 p from al p (by omega)]
    refine wp_istore_n (loc' := [(2, 52), (0, (wlA A p)), (0, (p : Int)), (0, (A.2 5 p))]) dX3_walls_20 rfl (Nat.le_of_ble_eq_true rfl) rfl ?_
    refine wp_aload_n dX3_walls_21 rfl rfl ?_
    refine wp_get 52 rfl fl_RX3_38 rfl ⟨by omega, by omega⟩ dX3_walls_22 rfl (v := 16) (hLd) ?_
    refine wp_iload_n dX3_walls_25 rfl rfl ?_
    refine wp_callV0 (d' := d - 1) cv_RX3_81 16 rfl [(0, (A.2 5 p))] [] rfl rfl (Or.inl ⟨_, _, rfl, by decide, rfl, by omega, by omega⟩) (by omega) (Nat.le_of_ble_eq_true rfl) dX3_walls_26 rfl (Nat.le_of_ble_eq_true rfl) (by omega) (loc1 := [(2, 16), (0, (A.2 5 p))]) rfl ?_
    have hv := w4 p (by omega)
    refine sp_has_16 hn (A.2 5 p) (fun _ => ?_) (fun h => absurd (by omega) h)
    refine wp_if_eq (tgt := 38) dX3_walls_29 (by decide) (fun h => absurd h (by decide)) (fun _ => ?_)
    refine wp_iload_n dX3_walls_32 rfl rfl ?_
    refine wp_iconst dX3_walls_33 (by decide) ?_
    refine wp_iload_n dX3_walls_34 rfl rfl ?_
    refine wp_ishl dX3_walls_35 ?_
    refine wp_ior dX3_walls_36 ?_
    refine wp_istore_n (loc' := [(2, 52), (0, (bor (wlA A p) (shl 1 (A.2 5 p)))), (0, (p : Int)), (0, (A.2 5 p))]) dX3_walls_37 rfl (Nat.le_of_ble_eq_true rfl) rfl ?_
    refine wp_iinc (loc' := [(2, 52), (0, (bor (wlA A p) (shl 1 (A.2 5 p)))), (0, ((p : Int) + 1)), (0, (A.2 5 p))]) dX3_walls_38 rfl (by omega) rfl ?_
    refine wp_goto (tgt := 4) dX3_walls_41 (by decide) ?_
    exact ih (p + 1) _ (by omega)
set_option maxRecDepth 20000 in
set_option maxHeartbeats 4000000 in
theorem sp_walls_16 {l : Launch} {g : Gw} {d n : Nat} {M : Mm} {Q : Option Wd → Mm → Prop} (hn : 60 ≤ n) (hd : 3 ≤ d) {A : Ls} {E : Ev} (hJ : FJ 16 M A E) (k : Q (some (0, bnd (wlA A (lnA A).length) (bxr (findA (cnA E A) (lnA A)).2 (-1)))) M) : Wp l g d 0 0 n m_X3_walls 0 [] [(2, 52), (9, 0), (9, 0), (9, 0)] M Q := by
  obtain ⟨hQ, hS, hAB, hLq⟩ := id hJ
  obtain ⟨hR, hA, hW, hLd, hL, hN, hxm, hT⟩ := id hQ
  obtain ⟨hF, hI, hP, hPB⟩ := id hS
  have h120 := hPB.le hN
  have h3 := hF.1
  have h3f : M 52 3 = ((flA E A).length : Int) := hF.1
  have h120f : (flA E A).length ≤ 120 := h120
  refine wp_iconst dX3_walls_0 (by decide) ?_
  refine wp_istore_n (loc' := [(2, 52), (0, 0), (9, 0), (9, 0)]) dX3_walls_1 rfl (Nat.le_of_ble_eq_true rfl) rfl ?_
  refine wp_iconst dX3_walls_2 (by decide) ?_
  refine wp_istore_n (loc' := [(2, 52), (0, 0), (0, 0), (9, 0)]) dX3_walls_3 rfl (Nat.le_of_ble_eq_true rfl) rfl ?_
  exact lp_walls_16 hn hd hJ k (lnA A).length 0 _ (by omega)
set_option maxRecDepth 20000 in
set_option maxHeartbeats 4000000 in
theorem lp_ringsI_16  {l : Launch} {g : Gw} {d n : Nat} {M : Mm} {Q : Option Wd → Mm → Prop} (hn : 60 ≤ n) (hd : 3 ≤ d) {A : Ls} {E : Ev} (hJ : FJ 16 M A E) {p : Nat} (hp : p < (lnA A).length) : ∀ (m q : Nat) (c : Int), q + m = (lnA A).length → p < q → (0 ≤ c ∧ c ≤ 100 - m) → (∀ u, Wp l g d 0 0 n m_X3_rings 79 [] [(2, 52), (0, rgI E A p m q c), (0, (p : Int)), u] M Q) → Wp l g d 0 0 n m_X3_rings 16 [] [(2, 52), (0, c), (0, (p : Int)), (0, (q : Int))] M Q := by
  obtain ⟨hQ, hS, hAB, hLq⟩ := id hJ
  obtain ⟨hR, hA, hW, hLd, hL, hN, hxm, hT⟩ := id hQ
  obtain ⟨hF, hI, hP, hPB⟩ := id hS
  have h120 := hPB.le hN
  have h3 := hF.1
  have h3f : M 52 3 = ((flA E A).length : Int) := hF.1
  have h120f : (flA E A).length ≤ 120 := h120
  obtain ⟨a0, a1, a2, a3, ar, al⟩ := id hA
  obtain ⟨w0, w1, w2, w3, w4, w5, w6⟩ := id hW
  have ll := lnA_len A
  have mp : A.2 5 p ∈ lnA A := lnA_mem.mpr ⟨p, by omega, rfl⟩
  intro m
  induction m with
  | zero =>
    intro q c hq hpq hc k
    refine wp_iload_n dX3_rings_16 rfl rfl ?_
    refine wp_aload_n dX3_rings_17 rfl rfl ?_
    refine wp_get 52 rfl fl_RX3_57 rfl ⟨by omega, by omega⟩ dX3_rings_18 rfl (v := (M 52 11)) (rfl) ?_
    refine wp_icmp_ge (tgt := 79) dX3_rings_21 (by decide) (fun _ => ?_) (fun h => absurd h (by omega))
    exact k _
  | succ m ih =>
    intro q c hq hpq hc k
    have mq : A.2 5 q ∈ lnA A := lnA_mem.mpr ⟨q, by omega, rfl⟩
    refine wp_iload_n dX3_rings_16 rfl rfl ?_
    refine wp_aload_n dX3_rings_17 rfl rfl ?_
    refine wp_get 52 rfl fl_RX3_57 rfl ⟨by omega, by omega⟩ dX3_rings_18 rfl (v := (M 52 11)) (rfl) ?_
    refine wp_icmp_ge (tgt := 79) dX3_rings_21 (by decide) (fun h => absurd h (by omega)) (fun _ => ?_)
    refine wp_aload_n dX3_rings_24 rfl rfl ?_
    refine wp_aload_n dX3_rings_25 rfl rfl ?_
    refine wp_get 52 rfl fl_RX3_38 rfl ⟨by omega, by omega⟩ dX3_rings_26 rfl (v := 16) (hLd) ?_
    refine wp_iload_n dX3_rings_29 rfl rfl ?_
    refine wp_callV0 (d' := d - 1) cv_RX3_70 16 rfl [(0, (p : Int))] [(2, 52)] rfl rfl (Or.inl ⟨_, _, rfl, by decide, rfl, by omega, by omega⟩) (by omega) (Nat.le_of_ble_eq_true rfl) dX3_rings_30 rfl (Nat.le_of_ble_eq_true rfl) (by omega) (loc1 := [(2, 16), (0, (p : Int))]) rfl ?_
    refine sp_at_16 hn hR (p : Int) (fun _ => ?_) (fun h => absurd (by omega) h)
    rw [show M 22 ((p : Int)).toNat = A.2 5 p from al p (by omega)]
    refine wp_aload_n dX3_rings_33 rfl rfl ?_
    refine wp_get 52 rfl fl_RX3_38 rfl ⟨by omega, by omega⟩ dX3_rings_34 rfl (v := 16) (hLd) ?_
    refine wp_iload_n dX3_rings_37 rfl rfl ?_
    refine wp_callV0 (d' := d - 1) cv_RX3_70 16 rfl [(0, (q : Int))] [(0, (A.2 5 p)), (2, 52)] rfl rfl (Or.inl ⟨_, _, rfl, by decide, rfl, by omega, by omega⟩) (by omega) (Nat.le_of_ble_eq_true rfl) dX3_rings_38 rfl (Nat.le_of_ble_eq_true rfl) (by omega) (loc1 := [(2, 16), (0, (q : Int))]) rfl ?_
    refine sp_at_16 hn hR (q : Int) (fun _ => ?_) (fun h => absurd (by omega) h)
    rw [show M 22 ((q : Int)).toNat = A.2 5 q from al q (by omega)]
    refine wp_callV0 (d' := d - 1) cv_RX3_105 52 rfl [(0, (A.2 5 p)), (0, (A.2 5 q))] [] rfl rfl (Or.inl ⟨_, _, rfl, by decide, rfl, by omega, by omega⟩) (by omega) (Nat.le_of_ble_eq_true rfl) dX3_rings_41 rfl (Nat.le_of_ble_eq_true rfl) (by omega) (loc1 := [(2, 52), (0, (A.2 5 p)), (0, (A.2 5 q))]) rfl ?_
    refine sp_mindsT_16 hn (by omega) hQ mp mq (fun h41m => ?_) (fun h41m => ?_)
    · refine wp_if_ne (tgt := 73) dX3_rings_44 (by decide) (fun _ => ?_) (fun h => absurd h (by decide))
      refine wp_iinc (loc' := [(2, 52), (0, c), (0, (p : Int)), (0, ((q : Int) + 1))]) dX3_rings_73 rfl (by omega) rfl ?_
      refine wp_goto (tgt := 16) dX3_rings_76 (by decide) ?_
      have e : rgI E A p (m + 1) q c = rgI E A p m (q + 1) c := by
        show rgI E A p m (q + 1) (if _ then _ else _) = _
        rw [if_neg (fun z => by first | exact absurd (h64m.symm.trans z.2) (by decide) | exact absurd (h41m.symm.trans z.1) (by decide))]
      rw [e] at k
      exact ih (q + 1) _ (by omega) (by omega) (by omega) k
    · refine wp_if_ne (tgt := 73) dX3_rings_44 (by decide) (fun h => absurd h (by decide)) (fun _ => ?_)
      refine wp_aload_n dX3_rings_47 rfl rfl ?_
      refine wp_aload_n dX3_rings_48 rfl rfl ?_
      refine wp_get 52 rfl fl_RX3_38 rfl ⟨by omega, by omega⟩ dX3_rings_49 rfl (v := 16) (hLd) ?_
      refine wp_iload_n dX3_rings_52 rfl rfl ?_
      refine wp_callV0 (d' := d - 1) cv_RX3_70 16 rfl [(0, (q : Int))] [(2, 52)] rfl rfl (Or.inl ⟨_, _, rfl, by decide, rfl, by omega, by omega⟩) (by omega) (Nat.le_of_ble_eq_true rfl) dX3_rings_53 rfl (Nat.le_of_ble_eq_true rfl) (by omega) (loc1 := [(2, 16), (0, (q : Int))]) rfl ?_
      refine sp_at_16 hn hR (q : Int) (fun _ => ?_) (fun h => absurd (by omega) h)
      rw [show M 22 ((q : Int)).toNat = A.2 5 q from al q (by omega)]
      refine wp_aload_n dX3_rings_56 rfl rfl ?_
      refine wp_get 52 rfl fl_RX3_38 rfl ⟨by omega, by omega⟩ dX3_rings_57 rfl (v := 16) (hLd) ?_
      refine wp_iload_n dX3_rings_60 rfl rfl ?_
      refine wp_callV0 (d' := d - 1) cv_RX3_70 16 rfl [(0, (p : Int))] [(0, (A.2 5 q)), (2, 52)] rfl rfl (Or.inl ⟨_, _, rfl, by decide, rfl, by omega, by omega⟩) (by omega) (Nat.le_of_ble_eq_true rfl) dX3_rings_61 rfl (Nat.le_of_ble_eq_true rfl) (by omega) (loc1 := [(2, 16), (0, (p : Int))]) rfl ?_
      refine sp_at_16 hn hR (p : Int) (fun _ => ?_) (fun h => absurd (by omega) h)
      rw [show M 22 ((p : Int)).toNat = A.2 5 p from al p (by omega)]
      refine wp_callV0 (d' := d - 1) cv_RX3_105 52 rfl [(0, (A.2 5 q)), (0, (A.2 5 p))] [] rfl rfl (Or.inl ⟨_, _, rfl, by decide, rfl, by omega, by omega⟩) (by omega) (Nat.le_of_ble_eq_true rfl) dX3_rings_64 rfl (Nat.le_of_ble_eq_true rfl) (by omega) (loc1 := [(2, 52), (0, (A.2 5 q)), (0, (A.2 5 p))]) rfl ?_
      refine sp_mindsT_16 hn (by omega) hQ mq mp (fun h64m => ?_) (fun h64m => ?_)
      · refine wp_if_ne (tgt := 73) dX3_rings_67 (by decide) (fun _ => ?_) (fun h => absurd h (by decide))
        refine wp_iinc (loc' := [(2, 52), (0, c), (0, (p : Int)), (0, ((q : Int) + 1))]) dX3_rings_73 rfl (by omega) rfl ?_
        refine wp_goto (tgt := 16) dX3_rings_76 (by decide) ?_
        have e : rgI E A p (m + 1) q c = rgI E A p m (q + 1) c := by
          show rgI E A p m (q + 1) (if _ then _ else _) = _
          rw [if_neg (fun z => by first | exact absurd (h64m.symm.trans z.2) (by decide) | exact absurd (h41m.symm.trans z.1) (by decide))]
        rw [e] at k
        exact ih (q + 1) _ (by omega) (by omega) (by omega) k
      · refine wp_if_ne (tgt := 73) dX3_rings_67 (by decide) (fun h => absurd h (by decide)) (fun _ => ?_)
        refine wp_iinc (loc' := [(2, 52), (0, (c + 1)), (0, (p : Int)), (0, (q : Int))]) dX3_rings_70 rfl (by omega) rfl ?_
        refine wp_iinc (loc' := [(2, 52), (0, (c + 1)), (0, (p : Int)), (0, ((q : Int) + 1))]) dX3_rings_73 rfl (by omega) rfl ?_
        refine wp_goto (tgt := 16) dX3_rings_76 (by decide) ?_
        have e : rgI E A p (m + 1) q c = rgI E A p m (q + 1) (c + 1) := by
          show rgI E A p m (q + 1) (if _ then _ else _) = _
          rw [if_pos ⟨h41m, h64m⟩]
        rw [e] at k
        exact ih (q + 1) _ (by omega) (by omega) (by omega) k
set_option maxRecDepth 20000 in
set_option maxHeartbeats 4000000 in
theorem lp_ringsO_16  {l : Launch} {g : Gw} {d n : Nat} {M : Mm} {Q : Option Wd → Mm → Prop} (hn : 60 ≤ n) (hd : 3 ≤ d) {A : Ls} {E : Ev} (hJ : FJ 16 M A E) : ∀ (m p : Nat) (c : Int) (u : Wd), p + m = (lnA A).length → (0 ≤ c ∧ c ≤ 5 * (p : Int)) → Q (some (0, rgO E A (lnA A).length m p c)) M → Wp l g d 0 0 n m_X3_rings 4 [] [(2, 52), (0, c), (0, (p : Int)), u] M Q := by
  obtain ⟨hQ, hS, hAB, hLq⟩ := id hJ
  obtain ⟨hR, hA, hW, hLd, hL, hN, hxm, hT⟩ := id hQ
  obtain ⟨hF, hI, hP, hPB⟩ := id hS
  have h120 := hPB.le hN
  have h3 := hF.1
  have h3f : M 52 3 = ((flA E A).length : Int) := hF.1
  have h120f : (flA E A).length ≤ 120 := h120
  obtain ⟨a0, a1, a2, a3, ar, al⟩ := id hA
  obtain ⟨w0, w1, w2, w3, w4, w5, w6⟩ := id hW
  have ll := lnA_len A
  intro m
  induction m with
  | zero =>
    intro p c u hp hc k
    refine wp_iload_n dX3_rings_4 rfl rfl ?_
    refine wp_aload_n dX3_rings_5 rfl rfl ?_
    refine wp_get 52 rfl fl_RX3_57 rfl ⟨by omega, by omega⟩ dX3_rings_6 rfl (v := (M 52 11)) (rfl) ?_
    refine wp_icmp_ge (tgt := 85) dX3_rings_9 (by decide) (fun _ => ?_) (fun h => absurd h (by omega))
    refine wp_iload_n dX3_rings_85 rfl rfl ?_
    refine wp_iret rfl dX3_rings_86 ?_
    exact k
  | succ m ih =>
    intro p c u hp hc k
    refine wp_iload_n dX3_rings_4 rfl rfl ?_
    refine wp_aload_n dX3_rings_5 rfl rfl ?_
    refine wp_get 52 rfl fl_RX3_57 rfl ⟨by omega, by omega⟩ dX3_rings_6 rfl (v := (M 52 11)) (rfl) ?_
    refine wp_icmp_ge (tgt := 85) dX3_rings_9 (by decide) (fun h => absurd h (by omega)) (fun _ => ?_)
    refine wp_iload_n dX3_rings_12 rfl rfl ?_
    refine wp_iconst dX3_rings_13 (by decide) ?_
    refine wp_iadd dX3_rings_14 (by omega) ?_
    refine wp_istore_n (loc' := [(2, 52), (0, c), (0, (p : Int)), (0, ((p : Int) + 1))]) dX3_rings_15 rfl (Nat.le_of_ble_eq_true rfl) rfl ?_
    have rr := rgI_r E A p ((lnA A).length - (p + 1)) (p + 1) c
    refine lp_ringsI_16 hn hd hJ (p := p) (by omega) ((lnA A).length - (p + 1)) (p + 1) c (by omega) (by omega) (by omega) (fun u2 => ?_)
    refine wp_iinc (loc' := [(2, 52), (0, (rgI E A p ((lnA A).length - (p + 1)) (p + 1) c)), (0, ((p : Int) + 1)), u2]) dX3_rings_79 rfl (by omega) rfl ?_
    refine wp_goto (tgt := 4) dX3_rings_82 (by decide) ?_
    exact ih (p + 1) _ _ (by omega) (by omega) k
set_option maxRecDepth 20000 in
set_option maxHeartbeats 4000000 in
theorem sp_rings_16 {l : Launch} {g : Gw} {d n : Nat} {M : Mm} {Q : Option Wd → Mm → Prop} (hn : 60 ≤ n) (hd : 3 ≤ d) {A : Ls} {E : Ev} (hJ : FJ 16 M A E) (k : Q (some (0, rgO E A (lnA A).length (lnA A).length 0 0)) M) : Wp l g d 0 0 n m_X3_rings 0 [] [(2, 52), (9, 0), (9, 0), (9, 0)] M Q := by
  obtain ⟨hQ, hS, hAB, hLq⟩ := id hJ
  obtain ⟨hR, hA, hW, hLd, hL, hN, hxm, hT⟩ := id hQ
  obtain ⟨hF, hI, hP, hPB⟩ := id hS
  have h120 := hPB.le hN
  have h3 := hF.1
  have h3f : M 52 3 = ((flA E A).length : Int) := hF.1
  have h120f : (flA E A).length ≤ 120 := h120
  refine wp_iconst dX3_rings_0 (by decide) ?_
  refine wp_istore_n (loc' := [(2, 52), (0, 0), (9, 0), (9, 0)]) dX3_rings_1 rfl (Nat.le_of_ble_eq_true rfl) rfl ?_
  refine wp_iconst dX3_rings_2 (by decide) ?_
  refine wp_istore_n (loc' := [(2, 52), (0, 0), (0, 0), (9, 0)]) dX3_rings_3 rfl (Nat.le_of_ble_eq_true rfl) rfl ?_
  exact lp_ringsO_16 hn hd hJ (lnA A).length 0 0 _ (by omega) (by omega) k
