/-! ===== nearest first; both ways of telling the best; orders, fewest ===== -/
theorem enc_lt {f h : Nat → Int} : ∀ n : Nat, (∀ p, p < n → 0 ≤ f p ∧ f p ≤ 4) → (∀ p, p < n → 0 ≤ h p ∧ h p ≤ 4) → (encN 5 0 f n < encN 5 0 h n ↔ encN 10 1 f n < encN 10 1 h n) ∧ (encN 5 0 f n = encN 5 0 h n ↔ encN 10 1 f n = encN 10 1 h n)
  | 0, _, _ => by
    unfold encN
    omega
  | n + 1, h1, h2 => by
    have ih := enc_lt (f := f) (h := h) n (fun p hp => h1 p (by omega)) (fun p hp => h2 p (by omega))
    have a := h1 n (by omega)
    have b := h2 n (by omega)
    unfold encN
    omega
def SRT (l : List (Od × Int)) : Prop := ∀ i j : Nat, i ≤ j → j < l.length → (l.getD i pr0).2 ≤ (l.getD j pr0).2
def UPB (l : List (Od × Int)) (w : Int) : Prop := ∀ j : Nat, j < l.length → (l.getD j pr0).2 ≤ w
theorem app_at {l : List (Od × Int)} {z : Od × Int} {j : Nat} : (l ++ [z]).getD j pr0 = if j < l.length then l.getD j pr0 else if j = l.length then z else pr0 := by
  by_cases c : j < l.length
  · rw [if_pos c]
    simp [List.getD_eq_getElem?_getD, List.getElem?_append_left c]
  · rw [if_neg c]
    by_cases e : j = l.length
    · rw [if_pos e, e]
      simp [List.getD_eq_getElem?_getD]
    · rw [if_neg e, List.getD_eq_getElem?_getD, List.getElem?_eq_none (by simp; omega)]
      rfl
theorem keep_srt {l : List (Od × Int)} {y : Od} {w : Int} (h : SRT l) (hu : UPB l (w + 1)) : SRT (keepA l y (w + 1)) ∧ UPB (keepA l y (w + 1)) (w + 1) := by
  unfold keepA
  split
  · exact ⟨h, hu⟩
  · refine ⟨fun i j hij hj => ?_, fun j hj => ?_⟩
    · rw [List.length_append] at hj
      have hj : j < l.length + 1 := hj
      rw [app_at, app_at]
      by_cases c : j < l.length
      · rw [if_pos c, if_pos (by omega)]
        exact h i j hij c
      · rw [if_neg c, if_pos (show j = l.length by omega)]
        by_cases c2 : i < l.length
        · rw [if_pos c2]
          exact hu i c2
        · rw [if_neg c2, if_pos (by omega)]
          omega
    · rw [List.length_append] at hj
      have hj : j < l.length + 1 := hj
      rw [app_at]
      by_cases c : j < l.length
      · rw [if_pos c]
        exact hu j c
      · rw [if_neg c, if_pos (by omega)]
        omega
theorem spA_srt {cn : Od → Nat → Bool} {x : Od} {w : Int} : ∀ (m p : Nat) (S : St), SRT S.1 → UPB S.1 (w + 1) → SRT (spA cn x w m p S).1 ∧ UPB (spA cn x w m p S).1 (w + 1)
  | 0, _, S, h1, h2 => ⟨h1, h2⟩
  | m + 1, p, S, h1, h2 => by
    unfold spA
    split
    · have h := keep_srt (y := swp x p) h1 h2
      exact spA_srt m (p + 1) _ h.1 h.2
    · exact spA_srt m (p + 1) S h1 h2
theorem spA_at {cn : Od → Nat → Bool} {x : Od} {w : Int} {i : Nat} : ∀ (m p : Nat) (S : St), i < S.1.length → (spA cn x w m p S).1.getD i pr0 = S.1.getD i pr0
  | 0, _, S, _ => rfl
  | m + 1, p, S, h => by
    unfold spA
    split
    · exact (spA_at m (p + 1) (keepA S.1 (swp x p) (w + 1), bor S.2 (shl 1 (at0 x (p - 1)))) (Nat.lt_of_lt_of_le h (keep_len S.1 (swp x p) (w + 1)))).trans (keep_at h)
    · exact spA_at m (p + 1) S h
theorem bfA_srt {cn : Od → Nat → Bool} {N : Nat} : ∀ (m i : Nat) (S : St), SRT S.1 → (i < S.1.length → UPB S.1 ((S.1.getD i pr0).2 + 1)) → SRT (bfA cn N m i S).1
  | 0, _, S, h, _ => h
  | m + 1, i, S, h, hu => by
    unfold bfA
    split
    · rename_i hi
      have q := spA_srt (cn := cn) (x := (S.1.getD i pr0).1) (w := (S.1.getD i pr0).2) (N - 1) 1 S h (hu hi)
      refine bfA_srt m (i + 1) _ q.1 (fun h1 j hj => ?_)
      have e := spA_at (cn := cn) (x := (S.1.getD i pr0).1) (w := (S.1.getD i pr0).2) (i := i) (N - 1) 1 S hi
      have l1 := q.1 i (i + 1) (by omega) h1
      have l2 := q.2 j hj
      rw [e] at l1
      have l3 : (S.1.getD i pr0).2 ≤ ((spA cn (S.1.getD i ([], 0)).1 (S.1.getD i ([], 0)).2 (N - 1) 1 S).1.getD (i + 1) pr0).2 := l1
      have l4 : ((spA cn (S.1.getD i ([], 0)).1 (S.1.getD i ([], 0)).2 (N - 1) 1 S).1.getD j pr0).2 ≤ (S.1.getD i pr0).2 + 1 := l2
      omega
    · exact h
theorem find_srt (E : Ev) (A : Ls) : SRT (flA E A) := by
  refine bfA_srt 121 0 ([(lnA A, 0)], 0) (fun i j hij hj => ?_) (fun _ j hj => ?_)
  · have h0 : j = 0 := by simpa using hj
    subst h0
    have h1 : i = 0 := by omega
    subst h1
    exact Int.le_refl _
  · have h0 : j = 0 := by simpa using hj
    subst h0
    show (0 : Int) ≤ 0 + 1
    omega
theorem best_eq {E : Ev} {A : Ls} (hO : ∀ i, i < (flA E A).length → okO (lnA A).length (odA E A i)) : ∀ (m i b : Nat), i + m = (flA E A).length → b < i → bstM E A m i b = bstA E A m i b
  | 0, _, _, _, _ => rfl
  | m + 1, i, b, h1, h2 => by
    have hs := find_srt E A b i (by omega) (by omega)
    have ho1 := hO i (by omega)
    have ho2 := hO b (by omega)
    have he := enc_lt (f := at0 (odA E A i)) (h := at0 (odA E A b)) (lnA A).length (fun q hq => ho1.at hq) (fun q hq => ho2.at hq)
    have hs2 : awA E A b ≤ awA E A i := hs
    have hl : cdA E A i < cdA E A b ↔ dgA E A i < dgA E A b := he.1
    unfold bstM bstA
    by_cases c : wA E A i < wA E A b ∨ (wA E A i = wA E A b ∧ awA E A i = awA E A b ∧ cdA E A i < cdA E A b)
    · rw [if_pos c, if_pos (by omega)]
      exact best_eq hO m (i + 1) i (by omega) (by omega)
    · rw [if_neg c, if_neg (by omega)]
      exact best_eq hO m (i + 1) b (by omega) (by omega)
theorem fw_fst {E : Ev} {A : Ls} {M : Mm} {D : Int} (h : ∀ i, i < (flA E A).length → M 76 i = dgA E A i ∧ M 77 i = awA E A i) : ∀ (m i : Nat), i + m = (flA E A).length → fwA E A D m i = if fst_ (M 76) D m i = -1 then -1 else M 77 (fst_ (M 76) D m i).toNat
  | 0, i, _ => rfl
  | m + 1, i, hm => by
    unfold fwA fst_
    have e := h i (by omega)
    rw [e.1]
    by_cases c : dgA E A i = D
    · rw [if_pos c, if_pos c, if_neg (by omega)]
      exact e.2.symm
    · rw [if_neg c, if_neg c]
      exact fw_fst h m (i + 1) (by omega)
set_option maxRecDepth 20000 in
set_option maxHeartbeats 4000000 in
theorem sp_ordm_0 {l : Launch} {g : Gw} {d n : Nat} {M : Mm} {Q : Option Wd → Mm → Prop} (hn : 90 ≤ n) {A : Ls} {E : Ev} (hI : MJ M A E) (hd : 80 ≤ d) (k : ∀ M', MJ M' A E → Fr VMo M M' → Q (some (0, ordA E A 0)) M') : Wp l g d 0 0 n m_X8_orders 0 [] [(2, 69), (0, 0), (9, 0)] M Q := by
  obtain ⟨hR, hA, hW, hr, hX⟩ := id hI
  have w2 := hW.1
  have w5 := hW.2.1
  have w3 := hW.2.2.1
  have w32 := hW.2.2.2.1
  have hok := lnA_ok hW
  have hll := lnA_len A
  have hN3 : A.1 3 = ((lnA A).length : Int) := by omega
  obtain ⟨N2, hN2⟩ := Int.eq_ofNat_of_zero_le w2
  refine wp_iload_n dX8_orders_0 rfl rfl ?_
  refine wp_i2l dX8_orders_1 ?_
  refine wp_lconst (v := 0) dX8_orders_2 (by decide) (by decide) ?_
  refine wp_ldc2 (x := 6) dX8_orders_3 kl_RX8_396 (by decide) (wr_l (by omega)) ?_
  refine wp_callS0 (d' := d - 1) cs_RX8_91 [(1, 0), (1, 0), (1, 6)] [] rfl rfl (Nat.le_of_ble_eq_true rfl) dX8_orders_6 rfl (Nat.le_of_ble_eq_true rfl) (by omega) (loc1 := [(1, 0), (9, 0), (1, 0), (9, 0), (1, 6), (9, 0)]) rfl ?_
  refine sp_in 0 0 6 (fun _ => ?_) (fun h => absurd (by decide) h)
  refine wp_if_ne (tgt := 15) dX8_orders_9 (by decide) (fun _ => ?_) (fun h => absurd h (by decide))
  refine wp_iload_n dX8_orders_15 rfl rfl ?_
  refine wp_bipush dX8_orders_16 (by decide) (by decide) ?_
  refine wp_icmp_ne (tgt := 26) dX8_orders_18 (by decide) (fun _ => ?_) (fun h => absurd h (by decide))
  refine wp_aload_n dX8_orders_26 rfl rfl ?_
  refine wp_callV0 (d' := d - 1) cv_RX8_401 69 rfl [] [] rfl rfl (Or.inl ⟨_, _, rfl, by decide, rfl, by omega, by omega⟩) (by omega) (Nat.le_of_ble_eq_true rfl) dX8_orders_27 rfl (Nat.le_of_ble_eq_true rfl) (by omega) (loc1 := [(2, 69), (9, 0), (9, 0), (9, 0), (9, 0)]) rfl ?_
  refine sp_grw hn hI (by omega) (fun M1 G1 T1 F1 => ?_)
  have hG := G1
  have h120 : (flA E A).length ≤ 120 := G1.2.2.2.1.le hok.2.1
  have hfp := fl_pos E A
  have hsb := bs_lt E A
  have ebs : bstM E A ((flA E A).length - 1) 1 0 = bsA E A := best_eq (fun i hi => (G1.ix hi).2.1) _ 1 0 (by omega) (by omega)
  refine wp_iload_n dX8_orders_30 rfl rfl ?_
  refine wp_if_eq (tgt := 39) dX8_orders_31 (by decide) (fun _ => ?_) (fun h => absurd h (by decide))
  refine wp_iload_n dX8_orders_39 rfl rfl ?_
  refine wp_if_ne (tgt := 50) dX8_orders_40 (by decide) (fun h => absurd h (by decide)) (fun _ => ?_)
  refine wp_aload_n dX8_orders_43 rfl rfl ?_
  refine wp_get 69 rfl fl_RX8_371 rfl ⟨by omega, by omega⟩ dX8_orders_44 rfl (v := ((flA E A).length : Int)) (G1.2.1.1) ?_
  refine wp_goto (tgt := 61) dX8_orders_47 (by decide) ?_
  refine wp_iret rfl dX8_orders_61 ?_
  exact k M1 G1.1 F1
set_option maxRecDepth 20000 in
set_option maxHeartbeats 4000000 in
theorem sp_ordm_1 {l : Launch} {g : Gw} {d n : Nat} {M : Mm} {Q : Option Wd → Mm → Prop} (hn : 90 ≤ n) {A : Ls} {E : Ev} (hI : MJ M A E) (hd : 80 ≤ d) (k : ∀ M', MJ M' A E → Fr VMo M M' → Q (some (0, ordA E A 1)) M') : Wp l g d 0 0 n m_X8_orders 0 [] [(2, 69), (0, 1), (9, 0)] M Q := by
  obtain ⟨hR, hA, hW, hr, hX⟩ := id hI
  have w2 := hW.1
  have w5 := hW.2.1
  have w3 := hW.2.2.1
  have w32 := hW.2.2.2.1
  have hok := lnA_ok hW
  have hll := lnA_len A
  have hN3 : A.1 3 = ((lnA A).length : Int) := by omega
  obtain ⟨N2, hN2⟩ := Int.eq_ofNat_of_zero_le w2
  refine wp_iload_n dX8_orders_0 rfl rfl ?_
  refine wp_i2l dX8_orders_1 ?_
  refine wp_lconst (v := 0) dX8_orders_2 (by decide) (by decide) ?_
  refine wp_ldc2 (x := 6) dX8_orders_3 kl_RX8_396 (by decide) (wr_l (by omega)) ?_
  refine wp_callS0 (d' := d - 1) cs_RX8_91 [(1, 1), (1, 0), (1, 6)] [] rfl rfl (Nat.le_of_ble_eq_true rfl) dX8_orders_6 rfl (Nat.le_of_ble_eq_true rfl) (by omega) (loc1 := [(1, 1), (9, 0), (1, 0), (9, 0), (1, 6), (9, 0)]) rfl ?_
  refine sp_in 1 0 6 (fun _ => ?_) (fun h => absurd (by decide) h)
  refine wp_if_ne (tgt := 15) dX8_orders_9 (by decide) (fun _ => ?_) (fun h => absurd h (by decide))
  refine wp_iload_n dX8_orders_15 rfl rfl ?_
  refine wp_bipush dX8_orders_16 (by decide) (by decide) ?_
  refine wp_icmp_ne (tgt := 26) dX8_orders_18 (by decide) (fun _ => ?_) (fun h => absurd h (by decide))
  refine wp_aload_n dX8_orders_26 rfl rfl ?_
  refine wp_callV0 (d' := d - 1) cv_RX8_401 69 rfl [] [] rfl rfl (Or.inl ⟨_, _, rfl, by decide, rfl, by omega, by omega⟩) (by omega) (Nat.le_of_ble_eq_true rfl) dX8_orders_27 rfl (Nat.le_of_ble_eq_true rfl) (by omega) (loc1 := [(2, 69), (9, 0), (9, 0), (9, 0), (9, 0)]) rfl ?_
  refine sp_grw hn hI (by omega) (fun M1 G1 T1 F1 => ?_)
  have hG := G1
  have h120 : (flA E A).length ≤ 120 := G1.2.2.2.1.le hok.2.1
  have hfp := fl_pos E A
  have hsb := bs_lt E A
  have ebs : bstM E A ((flA E A).length - 1) 1 0 = bsA E A := best_eq (fun i hi => (G1.ix hi).2.1) _ 1 0 (by omega) (by omega)
  refine wp_iload_n dX8_orders_30 rfl rfl ?_
  refine wp_if_eq (tgt := 39) dX8_orders_31 (by decide) (fun h => absurd h (by decide)) (fun _ => ?_)
  refine wp_iload_n dX8_orders_34 rfl rfl ?_
  refine wp_iconst dX8_orders_35 (by decide) ?_
  refine wp_icmp_ne (tgt := 62) dX8_orders_36 (by decide) (fun _ => ?_) (fun h => absurd h (by decide))
  refine wp_iload_n dX8_orders_62 rfl rfl ?_
  refine wp_iconst dX8_orders_63 (by decide) ?_
  refine wp_icmp_ne (tgt := 82) dX8_orders_64 (by decide) (fun h => absurd h (by decide)) (fun _ => ?_)
  refine wp_aload_n dX8_orders_67 rfl rfl ?_
  refine wp_callV0 (d' := d - 1) cv_RX8_390 69 rfl [] [] rfl rfl (Or.inl ⟨_, _, rfl, by decide, rfl, by omega, by omega⟩) (by omega) (Nat.le_of_ble_eq_true rfl) dX8_orders_68 rfl (Nat.le_of_ble_eq_true rfl) (by omega) (loc1 := [(2, 69), (9, 0)]) rfl ?_
  refine sp_wgm hn G1.1 (by omega) hN2 (fun M2 I2 W2 F2 => ?_)
  have G2 := G1.fx F2
  have F2o := F2.mono VMx.o
  refine wp_aload_n dX8_orders_71 rfl rfl ?_
  refine wp_aload_n dX8_orders_72 rfl rfl ?_
  refine wp_get 69 rfl fl_RX8_32 rfl ⟨by omega, by omega⟩ dX8_orders_73 rfl (v := 76) (sr_69_28 (M := M2) I2.1) ?_
  refine wp_iconst dX8_orders_76 (by decide) ?_
  refine wp_iald 76 rfl rfl ⟨by omega, by omega⟩ ⟨by omega, by omega⟩ dX8_orders_77 (v := (dgA E A 0)) ((G2.at (i := 0) (by omega)).1) ?_
  refine wp_callV0 (d' := d - 1) cv_RX8_393 69 rfl [(0, (dgA E A 0))] [] rfl rfl (Or.inl ⟨_, _, rfl, by decide, rfl, by omega, by omega⟩) (by omega) (Nat.le_of_ble_eq_true rfl) dX8_orders_78 rfl (Nat.le_of_ble_eq_true rfl) (by omega) (loc1 := [(2, 69), (0, (dgA E A 0)), (9, 0), (9, 0), (9, 0), (9, 0), (9, 0)]) rfl ?_
  refine sp_wtm hn I2 (by omega) hN3 hN2 W2 (G2.ix (i := 0) (by omega)).2.1 (G2.ix (i := 0) (by omega)).2.2 (fun M3 I3 f3 => ?_)
  refine wp_iret rfl dX8_orders_81 ?_
  exact k M3 I3 (F1.tr (F2o.tr (f3.mono V79.o)))
set_option maxRecDepth 20000 in
set_option maxHeartbeats 4000000 in
theorem sp_ordm_2 {l : Launch} {g : Gw} {d n : Nat} {M : Mm} {Q : Option Wd → Mm → Prop} (hn : 90 ≤ n) {A : Ls} {E : Ev} (hI : MJ M A E) (hd : 80 ≤ d) (k : ∀ M', MJ M' A E → Fr VMo M M' → Q (some (0, ordA E A 2)) M') : Wp l g d 0 0 n m_X8_orders 0 [] [(2, 69), (0, 2), (9, 0)] M Q := by
  obtain ⟨hR, hA, hW, hr, hX⟩ := id hI
  have w2 := hW.1
  have w5 := hW.2.1
  have w3 := hW.2.2.1
  have w32 := hW.2.2.2.1
  have hok := lnA_ok hW
  have hll := lnA_len A
  have hN3 : A.1 3 = ((lnA A).length : Int) := by omega
  obtain ⟨N2, hN2⟩ := Int.eq_ofNat_of_zero_le w2
  refine wp_iload_n dX8_orders_0 rfl rfl ?_
  refine wp_i2l dX8_orders_1 ?_
  refine wp_lconst (v := 0) dX8_orders_2 (by decide) (by decide) ?_
  refine wp_ldc2 (x := 6) dX8_orders_3 kl_RX8_396 (by decide) (wr_l (by omega)) ?_
  refine wp_callS0 (d' := d - 1) cs_RX8_91 [(1, 2), (1, 0), (1, 6)] [] rfl rfl (Nat.le_of_ble_eq_true rfl) dX8_orders_6 rfl (Nat.le_of_ble_eq_true rfl) (by omega) (loc1 := [(1, 2), (9, 0), (1, 0), (9, 0), (1, 6), (9, 0)]) rfl ?_
  refine sp_in 2 0 6 (fun _ => ?_) (fun h => absurd (by decide) h)
  refine wp_if_ne (tgt := 15) dX8_orders_9 (by decide) (fun _ => ?_) (fun h => absurd h (by decide))
  refine wp_iload_n dX8_orders_15 rfl rfl ?_
  refine wp_bipush dX8_orders_16 (by decide) (by decide) ?_
  refine wp_icmp_ne (tgt := 26) dX8_orders_18 (by decide) (fun _ => ?_) (fun h => absurd h (by decide))
  refine wp_aload_n dX8_orders_26 rfl rfl ?_
  refine wp_callV0 (d' := d - 1) cv_RX8_401 69 rfl [] [] rfl rfl (Or.inl ⟨_, _, rfl, by decide, rfl, by omega, by omega⟩) (by omega) (Nat.le_of_ble_eq_true rfl) dX8_orders_27 rfl (Nat.le_of_ble_eq_true rfl) (by omega) (loc1 := [(2, 69), (9, 0), (9, 0), (9, 0), (9, 0)]) rfl ?_
  refine sp_grw hn hI (by omega) (fun M1 G1 T1 F1 => ?_)
  have hG := G1
  have h120 : (flA E A).length ≤ 120 := G1.2.2.2.1.le hok.2.1
  have hfp := fl_pos E A
  have hsb := bs_lt E A
  have ebs : bstM E A ((flA E A).length - 1) 1 0 = bsA E A := best_eq (fun i hi => (G1.ix hi).2.1) _ 1 0 (by omega) (by omega)
  refine wp_iload_n dX8_orders_30 rfl rfl ?_
  refine wp_if_eq (tgt := 39) dX8_orders_31 (by decide) (fun h => absurd h (by decide)) (fun _ => ?_)
  refine wp_iload_n dX8_orders_34 rfl rfl ?_
  refine wp_iconst dX8_orders_35 (by decide) ?_
  refine wp_icmp_ne (tgt := 62) dX8_orders_36 (by decide) (fun _ => ?_) (fun h => absurd h (by decide))
  refine wp_iload_n dX8_orders_62 rfl rfl ?_
  refine wp_iconst dX8_orders_63 (by decide) ?_
  refine wp_icmp_ne (tgt := 82) dX8_orders_64 (by decide) (fun _ => ?_) (fun h => absurd h (by decide))
  refine wp_aload_n dX8_orders_82 rfl rfl ?_
  refine wp_callV0 (d' := d - 1) cv_RX8_407 69 rfl [] [] rfl rfl (Or.inl ⟨_, _, rfl, by decide, rfl, by omega, by omega⟩) (by omega) (Nat.le_of_ble_eq_true rfl) dX8_orders_83 rfl (Nat.le_of_ble_eq_true rfl) (by omega) (loc1 := [(2, 69), (9, 0), (9, 0), (9, 0), (9, 0), (9, 0)]) rfl ?_
  refine sp_bam hn G1 (by omega) hN2 (fun M2 G2 W2 F2o => ?_)
  rw [ebs]
  have I2 := G2.1
  refine wp_istore_n (loc' := [(2, 69), (0, 2), (0, ((bsA E A : Nat) : Int))]) dX8_orders_86 rfl (Nat.le_of_ble_eq_true rfl) rfl ?_
  refine wp_iload_n dX8_orders_87 rfl rfl ?_
  refine wp_iconst dX8_orders_88 (by decide) ?_
  refine wp_icmp_ne (tgt := 101) dX8_orders_89 (by decide) (fun h => absurd h (by decide)) (fun _ => ?_)
  refine wp_aload_n dX8_orders_92 rfl rfl ?_
  refine wp_get 69 rfl fl_RX8_32 rfl ⟨by omega, by omega⟩ dX8_orders_93 rfl (v := 76) (sr_69_28 (M := M2) I2.1) ?_
  refine wp_iload_n dX8_orders_96 rfl rfl ?_
  refine wp_iald 76 rfl rfl ⟨by omega, by omega⟩ ⟨by omega, by omega⟩ dX8_orders_97 (v := (dgA E A (bsA E A))) (by rw [show (((bsA E A : Nat) : Int)).toNat = (bsA E A) by omega]; exact (G2.at (i := bsA E A) hsb).1) ?_
  refine wp_goto (tgt := 125) dX8_orders_98 (by decide) ?_
  refine wp_iret rfl dX8_orders_125 ?_
  exact k M2 I2 (F1.tr F2o)
set_option maxRecDepth 20000 in
set_option maxHeartbeats 4000000 in
theorem sp_ordm_3 {l : Launch} {g : Gw} {d n : Nat} {M : Mm} {Q : Option Wd → Mm → Prop} (hn : 90 ≤ n) {A : Ls} {E : Ev} (hI : MJ M A E) (hd : 80 ≤ d) (k : ∀ M', MJ M' A E → Fr VMo M M' → Q (some (0, ordA E A 3)) M') : Wp l g d 0 0 n m_X8_orders 0 [] [(2, 69), (0, 3), (9, 0)] M Q := by
  obtain ⟨hR, hA, hW, hr, hX⟩ := id hI
  have w2 := hW.1
  have w5 := hW.2.1
  have w3 := hW.2.2.1
  have w32 := hW.2.2.2.1
  have hok := lnA_ok hW
  have hll := lnA_len A
  have hN3 : A.1 3 = ((lnA A).length : Int) := by omega
  obtain ⟨N2, hN2⟩ := Int.eq_ofNat_of_zero_le w2
  refine wp_iload_n dX8_orders_0 rfl rfl ?_
  refine wp_i2l dX8_orders_1 ?_
  refine wp_lconst (v := 0) dX8_orders_2 (by decide) (by decide) ?_
  refine wp_ldc2 (x := 6) dX8_orders_3 kl_RX8_396 (by decide) (wr_l (by omega)) ?_
  refine wp_callS0 (d' := d - 1) cs_RX8_91 [(1, 3), (1, 0), (1, 6)] [] rfl rfl (Nat.le_of_ble_eq_true rfl) dX8_orders_6 rfl (Nat.le_of_ble_eq_true rfl) (by omega) (loc1 := [(1, 3), (9, 0), (1, 0), (9, 0), (1, 6), (9, 0)]) rfl ?_
  refine sp_in 3 0 6 (fun _ => ?_) (fun h => absurd (by decide) h)
  refine wp_if_ne (tgt := 15) dX8_orders_9 (by decide) (fun _ => ?_) (fun h => absurd h (by decide))
  refine wp_iload_n dX8_orders_15 rfl rfl ?_
  refine wp_bipush dX8_orders_16 (by decide) (by decide) ?_
  refine wp_icmp_ne (tgt := 26) dX8_orders_18 (by decide) (fun _ => ?_) (fun h => absurd h (by decide))
  refine wp_aload_n dX8_orders_26 rfl rfl ?_
  refine wp_callV0 (d' := d - 1) cv_RX8_401 69 rfl [] [] rfl rfl (Or.inl ⟨_, _, rfl, by decide, rfl, by omega, by omega⟩) (by omega) (Nat.le_of_ble_eq_true rfl) dX8_orders_27 rfl (Nat.le_of_ble_eq_true rfl) (by omega) (loc1 := [(2, 69), (9, 0), (9, 0), (9, 0), (9, 0)]) rfl ?_
  refine sp_grw hn hI (by omega) (fun M1 G1 T1 F1 => ?_)
  have hG := G1
  have h120 : (flA E A).length ≤ 120 := G1.2.2.2.1.le hok.2.1
  have hfp := fl_pos E A
  have hsb := bs_lt E A
  have ebs : bstM E A ((flA E A).length - 1) 1 0 = bsA E A := best_eq (fun i hi => (G1.ix hi).2.1) _ 1 0 (by omega) (by omega)
  refine wp_iload_n dX8_orders_30 rfl rfl ?_
  refine wp_if_eq (tgt := 39) dX8_orders_31 (by decide) (fun h => absurd h (by decide)) (fun _ => ?_)
  refine wp_iload_n dX8_orders_34 rfl rfl ?_
  refine wp_iconst dX8_orders_35 (by decide) ?_
  refine wp_icmp_ne (tgt := 62) dX8_orders_36 (by decide) (fun _ => ?_) (fun h => absurd h (by decide))
  refine wp_iload_n dX8_orders_62 rfl rfl ?_
  refine wp_iconst dX8_orders_63 (by decide) ?_
  refine wp_icmp_ne (tgt := 82) dX8_orders_64 (by decide) (fun _ => ?_) (fun h => absurd h (by decide))
  refine wp_aload_n dX8_orders_82 rfl rfl ?_
  refine wp_callV0 (d' := d - 1) cv_RX8_407 69 rfl [] [] rfl rfl (Or.inl ⟨_, _, rfl, by decide, rfl, by omega, by omega⟩) (by omega) (Nat.le_of_ble_eq_true rfl) dX8_orders_83 rfl (Nat.le_of_ble_eq_true rfl) (by omega) (loc1 := [(2, 69), (9, 0), (9, 0), (9, 0), (9, 0), (9, 0)]) rfl ?_
  refine sp_bam hn G1 (by omega) hN2 (fun M2 G2 W2 F2o => ?_)
  rw [ebs]
  have I2 := G2.1
  refine wp_istore_n (loc' := [(2, 69), (0, 3), (0, ((bsA E A : Nat) : Int))]) dX8_orders_86 rfl (Nat.le_of_ble_eq_true rfl) rfl ?_
  refine wp_iload_n dX8_orders_87 rfl rfl ?_
  refine wp_iconst dX8_orders_88 (by decide) ?_
  refine wp_icmp_ne (tgt := 101) dX8_orders_89 (by decide) (fun _ => ?_) (fun h => absurd h (by decide))
  refine wp_iload_n dX8_orders_101 rfl rfl ?_
  refine wp_iconst dX8_orders_102 (by decide) ?_
  refine wp_icmp_ne (tgt := 119) dX8_orders_103 (by decide) (fun h => absurd h (by decide)) (fun _ => ?_)
  refine wp_aload_n dX8_orders_106 rfl rfl ?_
  refine wp_aload_n dX8_orders_107 rfl rfl ?_
  refine wp_get 69 rfl fl_RX8_32 rfl ⟨by omega, by omega⟩ dX8_orders_108 rfl (v := 76) (sr_69_28 (M := M2) I2.1) ?_
  refine wp_iload_n dX8_orders_111 rfl rfl ?_
  refine wp_iald 76 rfl rfl ⟨by omega, by omega⟩ ⟨by omega, by omega⟩ dX8_orders_112 (v := (dgA E A (bsA E A))) (by rw [show (((bsA E A : Nat) : Int)).toNat = (bsA E A) by omega]; exact (G2.at (i := bsA E A) hsb).1) ?_
  refine wp_callV0 (d' := d - 1) cv_RX8_393 69 rfl [(0, (dgA E A (bsA E A)))] [] rfl rfl (Or.inl ⟨_, _, rfl, by decide, rfl, by omega, by omega⟩) (by omega) (Nat.le_of_ble_eq_true rfl) dX8_orders_113 rfl (Nat.le_of_ble_eq_true rfl) (by omega) (loc1 := [(2, 69), (0, (dgA E A (bsA E A))), (9, 0), (9, 0), (9, 0), (9, 0), (9, 0)]) rfl ?_
  refine sp_wtm hn I2 (by omega) hN3 hN2 W2 (G2.ix (i := (bsA E A)) (by omega)).2.1 (G2.ix (i := (bsA E A)) (by omega)).2.2 (fun M3 I3 f3 => ?_)
  refine wp_goto (tgt := 125) dX8_orders_116 (by decide) ?_
  refine wp_iret rfl dX8_orders_125 ?_
  exact k M3 I3 (F1.tr (F2o.tr (f3.mono V79.o)))
set_option maxRecDepth 20000 in
set_option maxHeartbeats 4000000 in
theorem sp_ordm_4 {l : Launch} {g : Gw} {d n : Nat} {M : Mm} {Q : Option Wd → Mm → Prop} (hn : 90 ≤ n) {A : Ls} {E : Ev} (hI : MJ M A E) (hd : 80 ≤ d) (k : ∀ M', MJ M' A E → Fr VMo M M' → Q (some (0, ordA E A 4)) M') : Wp l g d 0 0 n m_X8_orders 0 [] [(2, 69), (0, 4), (9, 0)] M Q := by
  obtain ⟨hR, hA, hW, hr, hX⟩ := id hI
  have w2 := hW.1
  have w5 := hW.2.1
  have w3 := hW.2.2.1
  have w32 := hW.2.2.2.1
  have hok := lnA_ok hW
  have hll := lnA_len A
  have hN3 : A.1 3 = ((lnA A).length : Int) := by omega
  obtain ⟨N2, hN2⟩ := Int.eq_ofNat_of_zero_le w2
  refine wp_iload_n dX8_orders_0 rfl rfl ?_
  refine wp_i2l dX8_orders_1 ?_
  refine wp_lconst (v := 0) dX8_orders_2 (by decide) (by decide) ?_
  refine wp_ldc2 (x := 6) dX8_orders_3 kl_RX8_396 (by decide) (wr_l (by omega)) ?_
  refine wp_callS0 (d' := d - 1) cs_RX8_91 [(1, 4), (1, 0), (1, 6)] [] rfl rfl (Nat.le_of_ble_eq_true rfl) dX8_orders_6 rfl (Nat.le_of_ble_eq_true rfl) (by omega) (loc1 := [(1, 4), (9, 0), (1, 0), (9, 0), (1, 6), (9, 0)]) rfl ?_
  refine sp_in 4 0 6 (fun _ => ?_) (fun h => absurd (by decide) h)
  refine wp_if_ne (tgt := 15) dX8_orders_9 (by decide) (fun _ => ?_) (fun h => absurd h (by decide))
  refine wp_iload_n dX8_orders_15 rfl rfl ?_
  refine wp_bipush dX8_orders_16 (by decide) (by decide) ?_
  refine wp_icmp_ne (tgt := 26) dX8_orders_18 (by decide) (fun _ => ?_) (fun h => absurd h (by decide))
  refine wp_aload_n dX8_orders_26 rfl rfl ?_
  refine wp_callV0 (d' := d - 1) cv_RX8_401 69 rfl [] [] rfl rfl (Or.inl ⟨_, _, rfl, by decide, rfl, by omega, by omega⟩) (by omega) (Nat.le_of_ble_eq_true rfl) dX8_orders_27 rfl (Nat.le_of_ble_eq_true rfl) (by omega) (loc1 := [(2, 69), (9, 0), (9, 0), (9, 0), (9, 0)]) rfl ?_
  refine sp_grw hn hI (by omega) (fun M1 G1 T1 F1 => ?_)
  have hG := G1
  have h120 : (flA E A).length ≤ 120 := G1.2.2.2.1.le hok.2.1
  have hfp := fl_pos E A
  have hsb := bs_lt E A
  have ebs : bstM E A ((flA E A).length - 1) 1 0 = bsA E A := best_eq (fun i hi => (G1.ix hi).2.1) _ 1 0 (by omega) (by omega)
  refine wp_iload_n dX8_orders_30 rfl rfl ?_
  refine wp_if_eq (tgt := 39) dX8_orders_31 (by decide) (fun h => absurd h (by decide)) (fun _ => ?_)
  refine wp_iload_n dX8_orders_34 rfl rfl ?_
  refine wp_iconst dX8_orders_35 (by decide) ?_
  refine wp_icmp_ne (tgt := 62) dX8_orders_36 (by decide) (fun _ => ?_) (fun h => absurd h (by decide))
  refine wp_iload_n dX8_orders_62 rfl rfl ?_
  refine wp_iconst dX8_orders_63 (by decide) ?_
  refine wp_icmp_ne (tgt := 82) dX8_orders_64 (by decide) (fun _ => ?_) (fun h => absurd h (by decide))
  refine wp_aload_n dX8_orders_82 rfl rfl ?_
  refine wp_callV0 (d' := d - 1) cv_RX8_407 69 rfl [] [] rfl rfl (Or.inl ⟨_, _, rfl, by decide, rfl, by omega, by omega⟩) (by omega) (Nat.le_of_ble_eq_true rfl) dX8_orders_83 rfl (Nat.le_of_ble_eq_true rfl) (by omega) (loc1 := [(2, 69), (9, 0), (9, 0), (9, 0), (9, 0), (9, 0)]) rfl ?_
  refine sp_bam hn G1 (by omega) hN2 (fun M2 G2 W2 F2o => ?_)
  rw [ebs]
  have I2 := G2.1
  refine wp_istore_n (loc' := [(2, 69), (0, 4), (0, ((bsA E A : Nat) : Int))]) dX8_orders_86 rfl (Nat.le_of_ble_eq_true rfl) rfl ?_
  refine wp_iload_n dX8_orders_87 rfl rfl ?_
  refine wp_iconst dX8_orders_88 (by decide) ?_
  refine wp_icmp_ne (tgt := 101) dX8_orders_89 (by decide) (fun _ => ?_) (fun h => absurd h (by decide))
  refine wp_iload_n dX8_orders_101 rfl rfl ?_
  refine wp_iconst dX8_orders_102 (by decide) ?_
  refine wp_icmp_ne (tgt := 119) dX8_orders_103 (by decide) (fun _ => ?_) (fun h => absurd h (by decide))
  refine wp_aload_n dX8_orders_119 rfl rfl ?_
  refine wp_get 69 rfl fl_RX8_35 rfl ⟨by omega, by omega⟩ dX8_orders_120 rfl (v := 77) (sr_69_29 (M := M2) I2.1) ?_
  refine wp_iload_n dX8_orders_123 rfl rfl ?_
  refine wp_iald 77 rfl rfl ⟨by omega, by omega⟩ ⟨by omega, by omega⟩ dX8_orders_124 (v := (awA E A (bsA E A))) (by rw [show (((bsA E A : Nat) : Int)).toNat = (bsA E A) by omega]; exact (G2.at (i := bsA E A) hsb).2) ?_
  refine wp_iret rfl dX8_orders_125 ?_
  exact k M2 I2 (F1.tr F2o)
set_option maxRecDepth 20000 in
set_option maxHeartbeats 4000000 in
theorem sp_ordm_5 {l : Launch} {g : Gw} {d n : Nat} {M : Mm} {Q : Option Wd → Mm → Prop} (hn : 90 ≤ n) {A : Ls} {E : Ev} (hI : MJ M A E) (hd : 80 ≤ d) (k : ∀ M', MJ M' A E → Fr VMo M M' → Q (some (0, ordA E A 5)) M') : Wp l g d 0 0 n m_X8_orders 0 [] [(2, 69), (0, 5), (9, 0)] M Q := by
  obtain ⟨hR, hA, hW, hr, hX⟩ := id hI
  have w2 := hW.1
  have w5 := hW.2.1
  have w3 := hW.2.2.1
  have w32 := hW.2.2.2.1
  have hok := lnA_ok hW
  have hll := lnA_len A
  have hN3 : A.1 3 = ((lnA A).length : Int) := by omega
  obtain ⟨N2, hN2⟩ := Int.eq_ofNat_of_zero_le w2
  refine wp_iload_n dX8_orders_0 rfl rfl ?_
  refine wp_i2l dX8_orders_1 ?_
  refine wp_lconst (v := 0) dX8_orders_2 (by decide) (by decide) ?_
  refine wp_ldc2 (x := 6) dX8_orders_3 kl_RX8_396 (by decide) (wr_l (by omega)) ?_
  refine wp_callS0 (d' := d - 1) cs_RX8_91 [(1, 5), (1, 0), (1, 6)] [] rfl rfl (Nat.le_of_ble_eq_true rfl) dX8_orders_6 rfl (Nat.le_of_ble_eq_true rfl) (by omega) (loc1 := [(1, 5), (9, 0), (1, 0), (9, 0), (1, 6), (9, 0)]) rfl ?_
  refine sp_in 5 0 6 (fun _ => ?_) (fun h => absurd (by decide) h)
  refine wp_if_ne (tgt := 15) dX8_orders_9 (by decide) (fun _ => ?_) (fun h => absurd h (by decide))
  refine wp_iload_n dX8_orders_15 rfl rfl ?_
  refine wp_bipush dX8_orders_16 (by decide) (by decide) ?_
  refine wp_icmp_ne (tgt := 26) dX8_orders_18 (by decide) (fun _ => ?_) (fun h => absurd h (by decide))
  refine wp_aload_n dX8_orders_26 rfl rfl ?_
  refine wp_callV0 (d' := d - 1) cv_RX8_401 69 rfl [] [] rfl rfl (Or.inl ⟨_, _, rfl, by decide, rfl, by omega, by omega⟩) (by omega) (Nat.le_of_ble_eq_true rfl) dX8_orders_27 rfl (Nat.le_of_ble_eq_true rfl) (by omega) (loc1 := [(2, 69), (9, 0), (9, 0), (9, 0), (9, 0)]) rfl ?_
  refine sp_grw hn hI (by omega) (fun M1 G1 T1 F1 => ?_)
  have hG := G1
  have h120 : (flA E A).length ≤ 120 := G1.2.2.2.1.le hok.2.1
  have hfp := fl_pos E A
  have hsb := bs_lt E A
  have ebs : bstM E A ((flA E A).length - 1) 1 0 = bsA E A := best_eq (fun i hi => (G1.ix hi).2.1) _ 1 0 (by omega) (by omega)
  refine wp_iload_n dX8_orders_30 rfl rfl ?_
  refine wp_if_eq (tgt := 39) dX8_orders_31 (by decide) (fun h => absurd h (by decide)) (fun _ => ?_)
  refine wp_iload_n dX8_orders_34 rfl rfl ?_
  refine wp_iconst dX8_orders_35 (by decide) ?_
  refine wp_icmp_ne (tgt := 62) dX8_orders_36 (by decide) (fun h => absurd h (by decide)) (fun _ => ?_)
  refine wp_iload_n dX8_orders_39 rfl rfl ?_
  refine wp_if_ne (tgt := 50) dX8_orders_40 (by decide) (fun _ => ?_) (fun h => absurd h (by decide))
  refine wp_aload_n dX8_orders_50 rfl rfl ?_
  refine wp_callV0 (d' := d - 1) cv_RX8_404 69 rfl [] [] rfl rfl (Or.inl ⟨_, _, rfl, by decide, rfl, by omega, by omega⟩) (by omega) (Nat.le_of_ble_eq_true rfl) dX8_orders_51 rfl (Nat.le_of_ble_eq_true rfl) (by omega) (loc1 := [(2, 69), (9, 0), (9, 0)]) rfl ?_
  refine sp_lnset hn G1.1 hN3 ?_
  refine wp_aload_n dX8_orders_54 rfl rfl ?_
  refine wp_get 69 rfl fl_RX8_374 rfl ⟨by omega, by omega⟩ dX8_orders_55 rfl (v := (findA (cnA E A) (lnA A)).2) (G1.2.2.1) ?_
  refine wp_iconst dX8_orders_58 (by decide) ?_
  refine wp_ixor dX8_orders_59 ?_
  refine wp_iand dX8_orders_60 ?_
  refine wp_iret rfl dX8_orders_61 ?_
  exact k M1 G1.1 F1
set_option maxRecDepth 20000 in
set_option maxHeartbeats 4000000 in
theorem sp_ordm_6 {l : Launch} {g : Gw} {d n : Nat} {M : Mm} {Q : Option Wd → Mm → Prop} (hn : 90 ≤ n) {A : Ls} {E : Ev} (hI : MJ M A E) (hd : 80 ≤ d) (k : ∀ M', MJ M' A E → Fr VMo M M' → Q (some (0, ordA E A 6)) M') : Wp l g d 0 0 n m_X8_orders 0 [] [(2, 69), (0, 6), (9, 0)] M Q := by
  obtain ⟨hR, hA, hW, hr, hX⟩ := id hI
  have w2 := hW.1
  have w5 := hW.2.1
  have w3 := hW.2.2.1
  have w32 := hW.2.2.2.1
  have hok := lnA_ok hW
  have hll := lnA_len A
  have hN3 : A.1 3 = ((lnA A).length : Int) := by omega
  obtain ⟨N2, hN2⟩ := Int.eq_ofNat_of_zero_le w2
  refine wp_iload_n dX8_orders_0 rfl rfl ?_
  refine wp_i2l dX8_orders_1 ?_
  refine wp_lconst (v := 0) dX8_orders_2 (by decide) (by decide) ?_
  refine wp_ldc2 (x := 6) dX8_orders_3 kl_RX8_396 (by decide) (wr_l (by omega)) ?_
  refine wp_callS0 (d' := d - 1) cs_RX8_91 [(1, 6), (1, 0), (1, 6)] [] rfl rfl (Nat.le_of_ble_eq_true rfl) dX8_orders_6 rfl (Nat.le_of_ble_eq_true rfl) (by omega) (loc1 := [(1, 6), (9, 0), (1, 0), (9, 0), (1, 6), (9, 0)]) rfl ?_
  refine sp_in 6 0 6 (fun _ => ?_) (fun h => absurd (by decide) h)
  refine wp_if_ne (tgt := 15) dX8_orders_9 (by decide) (fun _ => ?_) (fun h => absurd h (by decide))
  refine wp_iload_n dX8_orders_15 rfl rfl ?_
  refine wp_bipush dX8_orders_16 (by decide) (by decide) ?_
  refine wp_icmp_ne (tgt := 26) dX8_orders_18 (by decide) (fun h => absurd h (by decide)) (fun _ => ?_)
  refine wp_aload_n dX8_orders_21 rfl rfl ?_
  refine wp_callV0 (d' := d - 1) cv_RX8_398 69 rfl [] [] rfl rfl (Or.inl ⟨_, _, rfl, by decide, rfl, by omega, by omega⟩) (by omega) (Nat.le_of_ble_eq_true rfl) dX8_orders_22 rfl (Nat.le_of_ble_eq_true rfl) (by omega) (loc1 := [(2, 69), (9, 0), (9, 0), (9, 0)]) rfl ?_
  refine sp_rgm hn hI (by omega) hN3 (fun M1 I1 F1 => ?_)
  refine wp_iret rfl dX8_orders_25 ?_
  exact k M1 I1 (F1.mono VMs.o)
set_option maxRecDepth 20000 in
set_option maxHeartbeats 4000000 in
theorem cm_orders {l : Launch} {g : Gw} {d n : Nat} {M : Mm} {Q : Option Wd → Mm → Prop} (hn : 90 ≤ n) {A : Ls} {E : Ev} (hI : MJ M A E) (hd : 80 ≤ d) (w : Int) (kB : ¬ (0 ≤ w ∧ w ≤ 6) → Q (some (0, -2)) M) (k : (0 ≤ w ∧ w ≤ 6) → ∀ M', MJ M' A E → Fr VMo M M' → Q (some (0, ordA E A w)) M') : Wp l g d 0 0 n m_X8_orders 0 [] [(2, 69), (0, w), (9, 0)] M Q := by
  obtain ⟨hR, hA, hW, hr, hX⟩ := id hI
  have w2 := hW.1
  have w5 := hW.2.1
  have w3 := hW.2.2.1
  have w32 := hW.2.2.2.1
  by_cases hw : 0 ≤ w ∧ w ≤ 6
  · have hk := k hw
    rcases (show w = 0 ∨ w = 1 ∨ w = 2 ∨ w = 3 ∨ w = 4 ∨ w = 5 ∨ w = 6 by omega) with rfl | rfl | rfl | rfl | rfl | rfl | rfl
    · exact sp_ordm_0 hn hI hd hk
    · exact sp_ordm_1 hn hI hd hk
    · exact sp_ordm_2 hn hI hd hk
    · exact sp_ordm_3 hn hI hd hk
    · exact sp_ordm_4 hn hI hd hk
    · exact sp_ordm_5 hn hI hd hk
    · exact sp_ordm_6 hn hI hd hk
  · refine wp_iload_n dX8_orders_0 rfl rfl ?_
    refine wp_i2l dX8_orders_1 ?_
    refine wp_lconst (v := 0) dX8_orders_2 (by decide) (by decide) ?_
    refine wp_ldc2 (x := 6) dX8_orders_3 kl_RX8_396 (by decide) (wr_l (by omega)) ?_
    refine wp_callS0 (d' := d - 1) cs_RX8_91 [(1, w), (1, 0), (1, 6)] [] rfl rfl (Nat.le_of_ble_eq_true rfl) dX8_orders_6 rfl (Nat.le_of_ble_eq_true rfl) (by omega) (loc1 := [(1, w), (9, 0), (1, 0), (9, 0), (1, 6), (9, 0)]) rfl ?_
    refine sp_in w 0 6 (fun h => absurd h hw) (fun _ => ?_)
    refine wp_if_ne (tgt := 15) dX8_orders_9 (by decide) (fun h => absurd h (by decide)) (fun _ => ?_)
    refine wp_bipush dX8_orders_12 (by decide) (by decide) ?_
    refine wp_iret rfl dX8_orders_14 ?_
    exact kB (by omega)
set_option maxRecDepth 20000 in
set_option maxHeartbeats 4000000 in
theorem cm_fewest {l : Launch} {g : Gw} {d n : Nat} {M : Mm} {Q : Option Wd → Mm → Prop} (hn : 90 ≤ n) {A : Ls} {E : Ev} (hI : MJ M A E) (hd : 80 ≤ d) (x : Int) (kB : x < 0 → Q (some (0, -2)) M) (k : 0 ≤ x → ∀ M', MJ M' A E → Fr VMo M M' → Q (some (0, fwA E A x (flA E A).length 0)) M') : Wp l g d 0 0 n m_X8_fewest 0 [] [(2, 69), (0, x), (9, 0)] M Q := by
  obtain ⟨hR, hA, hW, hr, hX⟩ := id hI
  have w2 := hW.1
  have w5 := hW.2.1
  have w3 := hW.2.2.1
  have w32 := hW.2.2.2.1
  have hok := lnA_ok hW
  have hll := lnA_len A
  have hN3 : A.1 3 = ((lnA A).length : Int) := by omega
  obtain ⟨N2, hN2⟩ := Int.eq_ofNat_of_zero_le w2
  refine wp_iload_n dX8_fewest_0 rfl rfl ?_
  refine wp_if_ge (tgt := 7) dX8_fewest_1 (by decide) (fun h1 => ?_) (fun h1 => ?_)
  · refine wp_aload_n dX8_fewest_7 rfl rfl ?_
    refine wp_callV0 (d' := d - 1) cv_RX8_401 69 rfl [] [] rfl rfl (Or.inl ⟨_, _, rfl, by decide, rfl, by omega, by omega⟩) (by omega) (Nat.le_of_ble_eq_true rfl) dX8_fewest_8 rfl (Nat.le_of_ble_eq_true rfl) (by omega) (loc1 := [(2, 69), (9, 0), (9, 0), (9, 0), (9, 0)]) rfl ?_
    refine sp_grw hn hI (by omega) (fun M1 G1 T1 F1 => ?_)
    have hG := G1
    have h120 : (flA E A).length ≤ 120 := G1.2.2.2.1.le hok.2.1
    have hfp := fl_pos E A
    have hsb := bs_lt E A
    have ebs : bstM E A ((flA E A).length - 1) 1 0 = bsA E A := best_eq (fun i hi => (G1.ix hi).2.1) _ 1 0 (by omega) (by omega)
    refine wp_aload_n dX8_fewest_11 rfl rfl ?_
    refine wp_iload_n dX8_fewest_12 rfl rfl ?_
    refine wp_callV0 (d' := d - 1) cv_RX8_387 69 rfl [(0, x)] [] rfl rfl (Or.inl ⟨_, _, rfl, by decide, rfl, by omega, by omega⟩) (by omega) (Nat.le_of_ble_eq_true rfl) dX8_fewest_13 rfl (Nat.le_of_ble_eq_true rfl) (by omega) (loc1 := [(2, 69), (0, x), (9, 0)]) rfl ?_
    refine sp_lam hn G1.1.1 h120 G1.2.1.1 x ?_
    have hfr := fst_r (f := M1 76) (x := x) (flA E A).length 0
    have hfw := fw_fst (D := x) (fun i hi => G1.at hi) (flA E A).length 0 (by omega)
    refine wp_istore_n (loc' := [(2, 69), (0, x), (0, (fst_ (M1 76) x (flA E A).length 0))]) dX8_fewest_16 rfl (Nat.le_of_ble_eq_true rfl) rfl ?_
    refine wp_iload_n dX8_fewest_17 rfl rfl ?_
    refine wp_iconst dX8_fewest_18 (by decide) ?_
    refine wp_icmp_ne (tgt := 26) dX8_fewest_19 (by decide) (fun h19 => ?_) (fun h19 => ?_)
    · refine wp_aload_n dX8_fewest_26 rfl rfl ?_
      refine wp_get 69 rfl fl_RX8_35 rfl ⟨by omega, by omega⟩ dX8_fewest_27 rfl (v := 77) (sr_69_29 (M := M1) G1.1.1) ?_
      refine wp_iload_n dX8_fewest_30 rfl rfl ?_
      refine wp_iald 77 rfl rfl ⟨by omega, by omega⟩ ⟨by rcases hfr with h | ⟨q, _, b, c, _⟩ <;> omega, by rcases hfr with h | ⟨q, _, b, c, _⟩ <;> omega⟩ dX8_fewest_31 (v := (M1 77 (fst_ (M1 76) x (flA E A).length 0).toNat)) (by rw [show ((fst_ (M1 76) x (flA E A).length 0)).toNat = (fst_ (M1 76) x (flA E A).length 0).toNat by omega]) ?_
      refine wp_iret rfl dX8_fewest_32 ?_
      have q := k (by omega) M1 G1.1 F1
      rw [hfw, if_neg h19] at q
      exact q
    · refine wp_iconst dX8_fewest_22 (by decide) ?_
      refine wp_goto (tgt := 32) dX8_fewest_23 (by decide) ?_
      refine wp_iret rfl dX8_fewest_32 ?_
      have q := k (by omega) M1 G1.1 F1
      rw [hfw, if_pos h19] at q
      exact q
  · refine wp_bipush dX8_fewest_4 (by decide) (by decide) ?_
    refine wp_iret rfl dX8_fewest_6 ?_
    exact kB (by omega)
