/-! ===== the model: a land ===== -/
def Rm (M : Mm) (A : Ls) : Prop := M 69 7 = A.1 0 ∧ M 69 4 = A.1 1 ∧ M 69 10 = A.1 2 ∧ M 69 12 = A.1 3 ∧ (∀ i : Nat, (i : Int) < A.1 2 → M 73 i = A.2 0 i) ∧ (∀ r i : Nat, r < 4 → (i : Int) < A.1 2 → M 74 (4 * i + r) = A.2 (r + 1) i) ∧ ∀ q : Nat, (q : Int) < A.1 3 → M 75 q = A.2 5 q
/-- the texts, and what is worked out of them -/
def TXL (M : Mm) (E : Ev) : Prop := 1 ≤ M 69 3 ∧ M 69 3 ≤ 6 ∧ ∀ t : Nat, (t : Int) < M 69 3 → ∃ f z q, TXM M t f z ∧ BT f z ∧ txtP f z = .inr q ∧ (∀ e, E t 0 e = q.1.2 e) ∧ (∀ e, E t 1 e = q.2.1.2 e) ∧ ∀ e, E t 2 e = q.2.2.2 e
def MJ (M : Mm) (A : Ls) (E : Ev) : Prop := SR M ∧ Rm M A ∧ Wf A ∧ (0 ≤ A.1 1 ∧ A.1 1 < M 69 3) ∧ TXL M E
/-- cells of the model that its reading uses -/
def VMs (i j : Nat) : Prop := i = 69 ∧ 13 ≤ j ∧ j ≤ 27
theorem VMs.sr {M M' : Mm} (h : Fr VMs M M') (hR : SR M) : SR M' := hR.frL h (by unfold VMs; decide +kernel)
theorem VMq.s : ∀ i j, VMq i j → VMs i j := by
  intro i j h
  unfold VMq at h
  unfold VMs
  omega
theorem TXM.fr {M M' : Mm} {t : Nat} {f : Nat → Int} {z : Int} (h : TXM M t f z) (e1 : ∀ j, M' 70 j = M 70 j) (e2 : ∀ j, M' 71 j = M 71 j) : TXM M' t f z :=
  ⟨(e2 t).trans h.1, h.2.1, h.2.2.1, fun i hi => (e1 _).trans (h.2.2.2 i hi)⟩
theorem TXL.fr {M M' : Mm} {E : Ev} (h : TXL M E) (e0 : M' 69 3 = M 69 3) (e1 : ∀ j, M' 70 j = M 70 j) (e2 : ∀ j, M' 71 j = M 71 j) : TXL M' E := by
  refine ⟨by rw [e0]; exact h.1, by rw [e0]; exact h.2.1, fun t ht => ?_⟩
  obtain ⟨f, z, q, a, b⟩ := h.2.2 t (by rw [← e0]; exact ht)
  exact ⟨f, z, q, a.fr e1 e2, b⟩
theorem Rm.fr {M M' : Mm} {A : Ls} (h : Rm M A) (e0 : M' 69 7 = M 69 7) (e1 : M' 69 4 = M 69 4) (e2 : M' 69 10 = M 69 10) (e3 : M' 69 12 = M 69 12) (e4 : ∀ j, M' 73 j = M 73 j) (e5 : ∀ j, M' 74 j = M 74 j) (e6 : ∀ j, M' 75 j = M 75 j) : Rm M' A := by
  obtain ⟨a, b, c, d, x, y, z⟩ := h
  exact ⟨e0.trans a, e1.trans b, e2.trans c, e3.trans d, fun i hi => (e4 i).trans (x i hi), fun r i hr hi => (e5 _).trans (y r i hr hi), fun q hq => (e6 q).trans (z q hq)⟩
/-- cells that no land of the model, no text lies in -/
def VMn (i j : Nat) : Prop := i ≠ 70 ∧ i ≠ 71 ∧ i ≠ 73 ∧ i ≠ 74 ∧ i ≠ 75 ∧ ¬ (i = 69 ∧ (j = 3 ∨ j = 4 ∨ j = 7 ∨ j = 10 ∨ j = 12))
theorem MJ.frn {M M' : Mm} {A : Ls} {E : Ev} (h : MJ M A E) (g : Fr VMn M M') (hR : SR M') : MJ M' A E := by
  obtain ⟨a, b, c, d, x⟩ := h
  have e : ∀ i j, (i = 70 ∨ i = 71 ∨ i = 73 ∨ i = 74 ∨ i = 75 ∨ (i = 69 ∧ (j = 3 ∨ j = 4 ∨ j = 7 ∨ j = 10 ∨ j = 12))) → M' i j = M i j := fun i j q => g i j (by unfold VMn; omega)
  exact ⟨hR, b.fr (e _ _ (by omega)) (e _ _ (by omega)) (e _ _ (by omega)) (e _ _ (by omega)) (fun j => e _ _ (by omega)) (fun j => e _ _ (by omega)) (fun j => e _ _ (by omega)), c, ⟨d.1, by rw [e 69 3 (by omega)]; exact d.2⟩, x.fr (e _ _ (by omega)) (fun j => e _ _ (by omega)) (fun j => e _ _ (by omega))⟩
theorem VMs.n : ∀ i j, VMs i j → VMn i j := by
  intro i j h
  unfold VMs at h
  unfold VMn
  omega
theorem MJ.frs {M M' : Mm} {A : Ls} {E : Ev} (h : MJ M A E) (g : Fr VMs M M') : MJ M' A E := h.frn (g.mono VMs.n) (VMs.sr g h.1)
set_option maxRecDepth 20000 in
set_option maxHeartbeats 4000000 in
theorem sp_isOne {l : Launch} {g : Gw} {d n : Nat} {M : Mm} {Q : Option Wd → Mm → Prop} (hn : 90 ≤ n) {A : Ls} {E : Ev} (hI : MJ M A E) (hd : 1 ≤ d) (x : Int) (kt : 0 ≤ x ∧ x < A.1 2 → Q (some (0, 1)) M) (kf : ¬ (0 ≤ x ∧ x < A.1 2) → Q (some (0, 0)) M) : Wp l g d 0 0 n m_X8_isOne 0 [] [(2, 69), (0, x)] M Q := by
  obtain ⟨hR, hA, hW, hr, hX⟩ := id hI
  have w2 := hW.1
  have w5 := hW.2.1
  have w3 := hW.2.2.1
  have w32 := hW.2.2.2.1
  refine wp_iload_n dX8_isOne_0 rfl rfl ?_
  refine wp_i2l dX8_isOne_1 ?_
  refine wp_lconst (v := 0) dX8_isOne_2 (by decide) (by decide) ?_
  refine wp_aload_n dX8_isOne_3 rfl rfl ?_
  refine wp_get 69 rfl fl_RX8_88 rfl ⟨by omega, by omega⟩ dX8_isOne_4 rfl (v := (A.1 2)) (hA.2.2.1) ?_
  refine wp_iconst dX8_isOne_7 (by decide) ?_
  refine wp_isub dX8_isOne_8 (by omega) ?_
  refine wp_i2l dX8_isOne_9 ?_
  refine wp_callS0 (d' := d - 1) cs_RX8_91 [(1, x), (1, 0), (1, ((A.1 2) - 1))] [] rfl rfl (Nat.le_of_ble_eq_true rfl) dX8_isOne_10 rfl (Nat.le_of_ble_eq_true rfl) (by omega) (loc1 := [(1, x), (9, 0), (1, 0), (9, 0), (1, ((A.1 2) - 1)), (9, 0)]) rfl ?_
  refine sp_in x 0 ((A.1 2) - 1) (fun i10 => ?_) (fun i10 => ?_)
  · refine wp_zret rfl (by omega) dX8_isOne_13 ?_
    exact kt (by omega)
  · refine wp_zret rfl (by omega) dX8_isOne_13 ?_
    exact kf (by omega)
set_option maxRecDepth 20000 in
set_option maxHeartbeats 4000000 in
theorem sp_withm {l : Launch} {g : Gw} {d n : Nat} {M : Mm} {Q : Option Wd → Mm → Prop} (v a b : Int) (k : Q (some (0, wthn a b v)) M) : Wp l g d 0 0 n m_X8_within 0 [] [(0, v), (0, a), (0, b)] M Q := by
  refine wp_iload_n dX8_within_0 rfl rfl ?_
  refine wp_iload_n dX8_within_1 rfl rfl ?_
  refine wp_icmp_ge (tgt := 9) dX8_within_2 (by decide) (fun h2 => ?_) (fun h2 => ?_)
  · refine wp_iload_n dX8_within_9 rfl rfl ?_
    refine wp_iload_n dX8_within_10 rfl rfl ?_
    refine wp_icmp_le (tgt := 18) dX8_within_11 (by decide) (fun h11 => ?_) (fun h11 => ?_)
    · refine wp_iload_n dX8_within_18 rfl rfl ?_
      refine wp_iret rfl dX8_within_19 ?_
      have q : wthn a b v = v := (if_neg (by omega)).trans (if_neg (by omega))
      rw [q] at k
      exact k
    · refine wp_iload_n dX8_within_14 rfl rfl ?_
      refine wp_goto (tgt := 19) dX8_within_15 (by decide) ?_
      refine wp_iret rfl dX8_within_19 ?_
      have q : wthn a b v = b := (if_neg (by omega)).trans (if_pos (by omega))
      rw [q] at k
      exact k
  · refine wp_iload_n dX8_within_5 rfl rfl ?_
    refine wp_goto (tgt := 19) dX8_within_6 (by decide) ?_
    refine wp_iret rfl dX8_within_19 ?_
    have q : wthn a b v = a := if_pos (by omega)
    rw [q] at k
    exact k
set_option maxRecDepth 20000 in
set_option maxHeartbeats 4000000 in
theorem sp_likm {l : Launch} {g : Gw} {d n : Nat} {M : Mm} {Q : Option Wd → Mm → Prop} (hn : 90 ≤ n) {A : Ls} {E : Ev} (hI : MJ M A E) (x y : Int) (hx : 0 ≤ x ∧ x < A.1 2) (kt : bnd (shr (A.2 2 x.toNat) y) 1 = 1 → Q (some (0, 1)) M) (kf : bnd (shr (A.2 2 x.toNat) y) 1 ≠ 1 → Q (some (0, 0)) M) : Wp l g d 0 0 n m_X8_likes 0 [] [(2, 69), (0, x), (0, y)] M Q := by
  obtain ⟨hR, hA, hW, hr, hX⟩ := id hI
  have w2 := hW.1
  have w5 := hW.2.1
  have w3 := hW.2.2.1
  have w32 := hW.2.2.2.1
  refine wp_aload_n dX8_likes_0 rfl rfl ?_
  refine wp_get 69 rfl fl_RX8_26 rfl ⟨by omega, by omega⟩ dX8_likes_1 rfl (v := 74) (sr_69_9 (M := M) hR) ?_
  refine wp_iconst dX8_likes_4 (by decide) ?_
  refine wp_iload_n dX8_likes_5 rfl rfl ?_
  refine wp_imul dX8_likes_6 (by omega) ?_
  refine wp_iconst dX8_likes_7 (by decide) ?_
  refine wp_iadd dX8_likes_8 (by omega) ?_
  refine wp_iald 74 rfl rfl ⟨by omega, by omega⟩ ⟨by omega, by omega⟩ dX8_likes_9 (v := (A.2 2 x.toNat)) (by rw [show (((4 * x) + 1)).toNat = (4 * x.toNat + 1) by omega]; exact hA.2.2.2.2.2.1 1 x.toNat (by omega) (by omega)) ?_
  refine wp_iload_n dX8_likes_10 rfl rfl ?_
  refine wp_ishr dX8_likes_11 ?_
  refine wp_iconst dX8_likes_12 (by decide) ?_
  refine wp_iand dX8_likes_13 ?_
  refine wp_iconst dX8_likes_14 (by decide) ?_
  refine wp_icmp_ne (tgt := 22) dX8_likes_15 (by decide) (fun h15 => ?_) (fun h15 => ?_)
  · refine wp_iconst dX8_likes_22 (by decide) ?_
    refine wp_zret rfl (by omega) dX8_likes_23 ?_
    exact kf h15
  · refine wp_iconst dX8_likes_18 (by decide) ?_
    refine wp_goto (tgt := 23) dX8_likes_19 (by decide) ?_
    refine wp_zret rfl (by omega) dX8_likes_23 ?_
    exact kt h15
set_option maxRecDepth 20000 in
set_option maxHeartbeats 4000000 in
theorem lp_lkbm {l : Launch} {g : Gw} {d n : Nat} {M : Mm} {Q : Option Wd → Mm → Prop} (hn : 90 ≤ n) {A : Ls} {E : Ev} (hd : 1 ≤ d) (hI : MJ M A E) (x : Int) {N : Nat} (hN : A.1 2 = (N : Int)) (k : Q (some (0, lkr (A.2 2) x N)) M) : ∀ (m q : Nat), q + m = N → Wp l g d 0 0 n m_X8_likedBy 4 [] [(2, 69), (0, x), (0, lkr (A.2 2) x q), (0, (q : Int))] M Q := by
  obtain ⟨hR, hA, hW, hr, hX⟩ := id hI
  have w2 := hW.1
  have w5 := hW.2.1
  have w3 := hW.2.2.1
  have w32 := hW.2.2.2.1
  intro m
  induction m with
  | zero =>
    intro q hq
    refine wp_iload_n dX8_likedBy_4 rfl rfl ?_
    refine wp_aload_n dX8_likedBy_5 rfl rfl ?_
    refine wp_get 69 rfl fl_RX8_88 rfl ⟨by omega, by omega⟩ dX8_likedBy_6 rfl (v := (A.1 2)) (hA.2.2.1) ?_
    refine wp_icmp_ge (tgt := 35) dX8_likedBy_9 (by decide) (fun _ => ?_) (fun h => absurd h (by omega))
    refine wp_iload_n dX8_likedBy_35 rfl rfl ?_
    refine wp_iret rfl dX8_likedBy_36 ?_
    have e : q = N := by omega
    subst e
    exact k
  | succ m ih =>
    intro q hq
    refine wp_iload_n dX8_likedBy_4 rfl rfl ?_
    refine wp_aload_n dX8_likedBy_5 rfl rfl ?_
    refine wp_get 69 rfl fl_RX8_88 rfl ⟨by omega, by omega⟩ dX8_likedBy_6 rfl (v := (A.1 2)) (hA.2.2.1) ?_
    refine wp_icmp_ge (tgt := 35) dX8_likedBy_9 (by decide) (fun h => absurd h (by omega)) (fun _ => ?_)
    refine wp_iload_n dX8_likedBy_12 rfl rfl ?_
    refine wp_aload_n dX8_likedBy_13 rfl rfl ?_
    refine wp_iload_n dX8_likedBy_14 rfl rfl ?_
    refine wp_iload_n dX8_likedBy_15 rfl rfl ?_
    refine wp_callV0 (d' := d - 1) cv_RX8_352 69 rfl [(0, (q : Int)), (0, x)] [(0, (lkr (A.2 2) x q))] rfl rfl (Or.inl ⟨_, _, rfl, by decide, rfl, by omega, by omega⟩) (by omega) (Nat.le_of_ble_eq_true rfl) dX8_likedBy_16 rfl (Nat.le_of_ble_eq_true rfl) (by omega) (loc1 := [(2, 69), (0, (q : Int)), (0, x)]) rfl ?_
    refine sp_likm hn hI (q : Int) x (by omega) (fun c1 => ?_) (fun c1 => ?_)
    · refine wp_if_eq (tgt := 26) dX8_likedBy_19 (by decide) (fun h => absurd h (by decide)) (fun _ => ?_)
      refine wp_iconst dX8_likedBy_22 (by decide) ?_
      refine wp_goto (tgt := 27) dX8_likedBy_23 (by decide) ?_
      refine wp_iadd dX8_likedBy_27 (by have := lkr_r (A.2 2) x q; omega) ?_
      refine wp_istore_n (loc' := [(2, 69), (0, x), (0, ((lkr (A.2 2) x q) + 1)), (0, (q : Int))]) dX8_likedBy_28 rfl (Nat.le_of_ble_eq_true rfl) rfl ?_
      refine wp_iinc (loc' := [(2, 69), (0, x), (0, ((lkr (A.2 2) x q) + 1)), (0, ((q : Int) + 1))]) dX8_likedBy_29 rfl (by omega) rfl ?_
      refine wp_goto (tgt := 4) dX8_likedBy_32 (by decide) ?_
      have hb := bnd1 (shr (A.2 2 q) x)
      rw [show ((lkr (A.2 2) x q) + 1) = lkr (A.2 2) x (q + 1) by show _ = lkr (A.2 2) x q + bnd (shr (A.2 2 q) x) 1; have c1 : _ := c1; rw [show ((q : Int)).toNat = q from rfl] at c1; omega]
      exact ih (q + 1) (by omega)
    · refine wp_if_eq (tgt := 26) dX8_likedBy_19 (by decide) (fun _ => ?_) (fun h => absurd h (by decide))
      refine wp_iconst dX8_likedBy_26 (by decide) ?_
      refine wp_iadd dX8_likedBy_27 (by have := lkr_r (A.2 2) x q; omega) ?_
      refine wp_istore_n (loc' := [(2, 69), (0, x), (0, ((lkr (A.2 2) x q) + 0)), (0, (q : Int))]) dX8_likedBy_28 rfl (Nat.le_of_ble_eq_true rfl) rfl ?_
      refine wp_iinc (loc' := [(2, 69), (0, x), (0, ((lkr (A.2 2) x q) + 0)), (0, ((q : Int) + 1))]) dX8_likedBy_29 rfl (by omega) rfl ?_
      refine wp_goto (tgt := 4) dX8_likedBy_32 (by decide) ?_
      have hb := bnd1 (shr (A.2 2 q) x)
      rw [show ((lkr (A.2 2) x q) + 0) = lkr (A.2 2) x (q + 1) by show _ = lkr (A.2 2) x q + bnd (shr (A.2 2 q) x) 1; have c1 : _ := c1; rw [show ((q : Int)).toNat = q from rfl] at c1; omega]
      exact ih (q + 1) (by omega)
set_option maxRecDepth 20000 in
set_option maxHeartbeats 4000000 in
theorem sp_lkbm {l : Launch} {g : Gw} {d n : Nat} {M : Mm} {Q : Option Wd → Mm → Prop} (hn : 90 ≤ n) {A : Ls} {E : Ev} (hd : 1 ≤ d) (hI : MJ M A E) (x : Int) (k : Q (some (0, lkr (A.2 2) x (A.1 2).toNat)) M) : Wp l g d 0 0 n m_X8_likedBy 0 [] [(2, 69), (0, x), (9, 0), (9, 0)] M Q := by
  obtain ⟨hR, hA, hW, hr, hX⟩ := id hI
  have w2 := hW.1
  have w5 := hW.2.1
  have w3 := hW.2.2.1
  have w32 := hW.2.2.2.1
  refine wp_iconst dX8_likedBy_0 (by decide) ?_
  refine wp_istore_n (loc' := [(2, 69), (0, x), (0, 0), (9, 0)]) dX8_likedBy_1 rfl (Nat.le_of_ble_eq_true rfl) rfl ?_
  refine wp_iconst dX8_likedBy_2 (by decide) ?_
  refine wp_istore_n (loc' := [(2, 69), (0, x), (0, 0), (0, 0)]) dX8_likedBy_3 rfl (Nat.le_of_ble_eq_true rfl) rfl ?_
  exact lp_lkbm hn hd hI x (N := (A.1 2).toNat) (by omega) k (A.1 2).toNat 0 (by omega)
set_option maxRecDepth 20000 in
set_option maxHeartbeats 4000000 in
theorem lp_plm {l : Launch} {g : Gw} {d n : Nat} {M : Mm} {Q : Option Wd → Mm → Prop} (hn : 90 ≤ n) {A : Ls} {E : Ev} (hI : MJ M A E) (x : Int) : ∀ (m q : Nat), ((q + m : Nat) : Int) = A.1 3 → Q (some (0, fst_ (A.2 5) x m q)) M → Wp l g d 0 0 n m_X8_placeOf 2 [] [(2, 69), (0, x), (0, (q : Int))] M Q := by
  obtain ⟨hR, hA, hW, hr, hX⟩ := id hI
  have w2 := hW.1
  have w5 := hW.2.1
  have w3 := hW.2.2.1
  have w32 := hW.2.2.2.1
  intro m
  induction m with
  | zero =>
    intro q hq k
    refine wp_iload_n dX8_placeOf_2 rfl rfl ?_
    refine wp_aload_n dX8_placeOf_3 rfl rfl ?_
    refine wp_get 69 rfl fl_RX8_123 rfl ⟨by omega, by omega⟩ dX8_placeOf_4 rfl (v := (A.1 3)) (hA.2.2.2.1) ?_
    refine wp_icmp_ge (tgt := 28) dX8_placeOf_7 (by decide) (fun _ => ?_) (fun h => absurd h (by omega))
    refine wp_iconst dX8_placeOf_28 (by decide) ?_
    refine wp_iret rfl dX8_placeOf_29 ?_
    exact k
  | succ m ih =>
    intro q hq k
    refine wp_iload_n dX8_placeOf_2 rfl rfl ?_
    refine wp_aload_n dX8_placeOf_3 rfl rfl ?_
    refine wp_get 69 rfl fl_RX8_123 rfl ⟨by omega, by omega⟩ dX8_placeOf_4 rfl (v := (A.1 3)) (hA.2.2.2.1) ?_
    refine wp_icmp_ge (tgt := 28) dX8_placeOf_7 (by decide) (fun h => absurd h (by omega)) (fun _ => ?_)
    refine wp_aload_n dX8_placeOf_10 rfl rfl ?_
    refine wp_get 69 rfl fl_RX8_29 rfl ⟨by omega, by omega⟩ dX8_placeOf_11 rfl (v := 75) (sr_69_11 (M := M) hR) ?_
    refine wp_iload_n dX8_placeOf_14 rfl rfl ?_
    refine wp_iald 75 rfl rfl ⟨by omega, by omega⟩ ⟨by omega, by omega⟩ dX8_placeOf_15 (v := (A.2 5 q)) (hA.2.2.2.2.2.2 q (by omega)) ?_
    refine wp_iload_n dX8_placeOf_16 rfl rfl ?_
    refine wp_icmp_ne (tgt := 22) dX8_placeOf_17 (by decide) (fun h17 => ?_) (fun h17 => ?_)
    · refine wp_iinc (loc' := [(2, 69), (0, x), (0, ((q : Int) + 1))]) dX8_placeOf_22 rfl (by omega) rfl ?_
      refine wp_goto (tgt := 2) dX8_placeOf_25 (by decide) ?_
      unfold fst_ at k
      rw [if_neg h17] at k
      exact ih (q + 1) (by omega) k
    · refine wp_iload_n dX8_placeOf_20 rfl rfl ?_
      refine wp_iret rfl dX8_placeOf_21 ?_
      unfold fst_ at k
      rw [if_pos h17] at k
      exact k
set_option maxRecDepth 20000 in
set_option maxHeartbeats 4000000 in
theorem sp_plm {l : Launch} {g : Gw} {d n : Nat} {M : Mm} {Q : Option Wd → Mm → Prop} (hn : 90 ≤ n) {A : Ls} {E : Ev} (hI : MJ M A E) (x : Int) (k : Q (some (0, plA A x)) M) : Wp l g d 0 0 n m_X8_placeOf 0 [] [(2, 69), (0, x), (9, 0)] M Q := by
  obtain ⟨hR, hA, hW, hr, hX⟩ := id hI
  have w2 := hW.1
  have w5 := hW.2.1
  have w3 := hW.2.2.1
  have w32 := hW.2.2.2.1
  refine wp_iconst dX8_placeOf_0 (by decide) ?_
  refine wp_istore_n (loc' := [(2, 69), (0, x), (0, 0)]) dX8_placeOf_1 rfl (Nat.le_of_ble_eq_true rfl) rfl ?_
  exact lp_plm hn hI x (A.1 3).toNat 0 (by omega) k
set_option maxRecDepth 20000 in
set_option maxHeartbeats 4000000 in
theorem sp_says0 {l : Launch} {g : Gw} {d n : Nat} {M : Mm} {Q : Option Wd → Mm → Prop} (hn : 90 ≤ n) {A : Ls} {E : Ev} (hI : MJ M A E) (hd : 64 ≤ d) (x y : Int) (hx : 0 ≤ x ∧ x < A.1 2) (hy : 0 ≤ y ∧ y < A.1 2) (k : ∀ M', Fr VMs M M' → Q (some (0, E (A.1 1).toNat 0 (nmA A true x y))) M') : Wp l g d 0 0 n m_X8_says 0 [] [(2, 69), (0, 0), (0, x), (0, y), (9, 0)] M Q := by
  obtain ⟨hR, hA, hW, hr, hX⟩ := id hI
  have w2 := hW.1
  have w5 := hW.2.1
  have w3 := hW.2.2.1
  have w32 := hW.2.2.2.1
  refine wp_aload_n dX8_says_0 rfl rfl ?_
  refine wp_iload_n dX8_says_1 rfl rfl ?_
  refine wp_if_le (tgt := 13) dX8_says_2 (by decide) (fun _ => ?_) (fun h => absurd h (by decide))
  refine wp_aload_n dX8_says_13 rfl rfl ?_
  refine wp_iload_n dX8_says_14 rfl rfl ?_
  refine wp_iload_n dX8_says_15 rfl rfl ?_
  refine wp_callV0 (d' := d - 1) cv_RX8_352 69 rfl [(0, x), (0, y)] [(2, 69)] rfl rfl (Or.inl ⟨_, _, rfl, by decide, rfl, by omega, by omega⟩) (by omega) (Nat.le_of_ble_eq_true rfl) dX8_says_16 rfl (Nat.le_of_ble_eq_true rfl) (by omega) (loc1 := [(2, 69), (0, x), (0, y)]) rfl ?_
  refine sp_likm hn hI x y hx (fun c1 => ?_) (fun c1 => ?_)
  · refine wp_if_eq (tgt := 26) dX8_says_19 (by decide) (fun h => absurd h (by decide)) (fun _ => ?_)
    refine wp_iconst dX8_says_22 (by decide) ?_
    refine wp_goto (tgt := 27) dX8_says_23 (by decide) ?_
    refine wp_puti 69 rfl fl_RX8_204 rfl ⟨by omega, by omega⟩ dX8_says_27 rfl rfl ?_
    refine wp_aload_n dX8_says_30 rfl rfl ?_
    refine wp_aload_n dX8_says_31 rfl rfl ?_
    refine wp_get 69 rfl fl_RX8_26 rfl ⟨by omega, by omega⟩ dX8_says_32 rfl (v := 74) (sr_69_9 (M := M) hR) ?_
    refine wp_iconst dX8_says_35 (by decide) ?_
    refine wp_iload_n dX8_says_36 rfl rfl ?_
    refine wp_imul dX8_says_37 (by omega) ?_
    refine wp_iald 74 rfl rfl ⟨by omega, by omega⟩ ⟨by omega, by omega⟩ dX8_says_38 (v := (A.2 1 x.toNat)) (by rw [show ((4 * x)).toNat = (4 * x.toNat) by omega]; exact hA.2.2.2.2.2.1 0 x.toNat (by omega) (by omega)) ?_
    refine wp_puti 69 rfl fl_RX8_207 rfl ⟨by omega, by omega⟩ dX8_says_39 rfl rfl ?_
    refine wp_aload_n dX8_says_42 rfl rfl ?_
    refine wp_iload_n dX8_says_43 rfl rfl ?_
    refine wp_if_le (tgt := 51) dX8_says_44 (by decide) (fun _ => ?_) (fun h => absurd h (by decide))
    refine wp_aload_n dX8_says_51 rfl rfl ?_
    refine wp_get 69 rfl fl_RX8_26 rfl ⟨by omega, by omega⟩ dX8_says_52 rfl (v := 74) (sr_69_9 (M := M) hR) ?_
    refine wp_iconst dX8_says_55 (by decide) ?_
    refine wp_iload_n dX8_says_56 rfl rfl ?_
    refine wp_imul dX8_says_57 (by omega) ?_
    refine wp_iald 74 rfl rfl ⟨by omega, by omega⟩ ⟨by omega, by omega⟩ dX8_says_58 (v := (A.2 1 y.toNat)) (by rw [show ((4 * y)).toNat = (4 * y.toNat) by omega]; exact hA.2.2.2.2.2.1 0 y.toNat (by omega) (by omega)) ?_
    refine wp_puti 69 rfl fl_RX8_210 rfl ⟨by omega, by omega⟩ dX8_says_59 rfl rfl ?_
    refine wp_aload_n dX8_says_62 rfl rfl ?_
    refine wp_aload_n dX8_says_63 rfl rfl ?_
    refine wp_get 69 rfl fl_RX8_113 rfl ⟨by omega, by omega⟩ dX8_says_64 rfl (v := (A.1 0)) (hA.1) ?_
    refine wp_puti 69 rfl fl_RX8_213 rfl ⟨by omega, by omega⟩ dX8_says_67 rfl rfl ?_
    refine wp_aload_n dX8_says_70 rfl rfl ?_
    refine wp_iload_n dX8_says_71 rfl rfl ?_
    refine wp_if_le (tgt := 88) dX8_says_72 (by decide) (fun _ => ?_) (fun h => absurd h (by decide))
    refine wp_aload_n dX8_says_88 rfl rfl ?_
    refine wp_get 69 rfl fl_RX8_26 rfl ⟨by omega, by omega⟩ dX8_says_89 rfl (v := 74) (sr_69_9 (M := M) hR) ?_
    refine wp_iconst dX8_says_92 (by decide) ?_
    refine wp_iload_n dX8_says_93 rfl rfl ?_
    refine wp_imul dX8_says_94 (by omega) ?_
    refine wp_iconst dX8_says_95 (by decide) ?_
    refine wp_iadd dX8_says_96 (by omega) ?_
    refine wp_iald 74 rfl rfl ⟨by omega, by omega⟩ ⟨by omega, by omega⟩ dX8_says_97 (v := (A.2 3 y.toNat)) (by rw [show (((4 * y) + 2)).toNat = (4 * y.toNat + 2) by omega]; exact hA.2.2.2.2.2.1 2 y.toNat (by omega) (by omega)) ?_
    refine wp_puti 69 rfl fl_RX8_216 rfl ⟨by omega, by omega⟩ dX8_says_98 rfl rfl ?_
    refine wp_aload_n dX8_says_101 rfl rfl ?_
    refine wp_aload_n dX8_says_102 rfl rfl ?_
    refine wp_get 69 rfl fl_RX8_26 rfl ⟨by omega, by omega⟩ dX8_says_103 rfl (v := 74) (sr_69_9 (M := M) hR) ?_
    refine wp_iconst dX8_says_106 (by decide) ?_
    refine wp_iload_n dX8_says_107 rfl rfl ?_
    refine wp_imul dX8_says_108 (by omega) ?_
    refine wp_iconst dX8_says_109 (by decide) ?_
    refine wp_iadd dX8_says_110 (by omega) ?_
    refine wp_iald 74 rfl rfl ⟨by omega, by omega⟩ ⟨by omega, by omega⟩ dX8_says_111 (v := (A.2 4 x.toNat)) (by rw [show (((4 * x) + 3)).toNat = (4 * x.toNat + 3) by omega]; exact hA.2.2.2.2.2.1 3 x.toNat (by omega) (by omega)) ?_
    refine wp_puti 69 rfl fl_RX8_219 rfl ⟨by omega, by omega⟩ dX8_says_112 rfl rfl ?_
    refine wp_aload_n dX8_says_115 rfl rfl ?_
    refine wp_aload_n dX8_says_116 rfl rfl ?_
    refine wp_get 69 rfl fl_RX8_116 rfl ⟨by omega, by omega⟩ dX8_says_117 rfl (v := (A.1 1)) (hA.2.1) ?_
    refine wp_iload_n dX8_says_120 rfl rfl ?_
    refine wp_callV0 (d' := d - 1) cv_RX8_349 69 rfl [(0, (A.1 1)), (0, 0)] [] rfl rfl (Or.inl ⟨_, _, rfl, by decide, rfl, by omega, by omega⟩) (by omega) (Nat.le_of_ble_eq_true rfl) dX8_says_121 rfl (Nat.le_of_ble_eq_true rfl) (by omega) (loc1 := [(2, 69), (0, (A.1 1)), (0, 0), (9, 0), (9, 0), (9, 0)]) rfl ?_
    have F1 : Fr VMs M (mu (mu (mu (mu (mu (mu M 69 13 1) 69 14 (A.2 1 x.toNat)) 69 15 (A.2 1 y.toNat)) 69 16 (A.1 0)) 69 17 (A.2 3 y.toNat)) 69 18 (A.2 4 x.toNat)) := (((((((Fr.rf : Fr VMs M M).put ⟨rfl, by omega, by omega⟩).put ⟨rfl, by omega, by omega⟩).put ⟨rfl, by omega, by omega⟩).put ⟨rfl, by omega, by omega⟩).put ⟨rfl, by omega, by omega⟩).put ⟨rfl, by omega, by omega⟩)
    have I1 := hI.frs F1
    have hE1 : ENm (mu (mu (mu (mu (mu (mu M 69 13 1) 69 14 (A.2 1 x.toNat)) 69 15 (A.2 1 y.toNat)) 69 16 (A.1 0)) 69 17 (A.2 3 y.toNat)) 69 18 (A.2 4 x.toNat)) (nmA A true x y) := by
      refine ⟨?_, rfl, rfl, rfl, rfl, rfl⟩
      have hb := bnd1 (shr (A.2 2 x.toNat) y)
      show 1 = bnd (shr (A.2 2 x.toNat) y) 1
      omega
    generalize (mu (mu (mu (mu (mu (mu M 69 13 1) 69 14 (A.2 1 x.toNat)) 69 15 (A.2 1 y.toNat)) 69 16 (A.1 0)) 69 17 (A.2 3 y.toNat)) 69 18 (A.2 4 x.toNat)) = N1 at F1 I1 hE1 ⊢
    obtain ⟨t, ht⟩ := Int.eq_ofNat_of_zero_le hr.1
    obtain ⟨f, z, q, x1, x2, x3, x4, x5, x6⟩ := I1.2.2.2.2.2.2 t (by have := I1.2.2.2.1.2; omega)
    have ht6 : t < 6 := by have := hX.2.1; omega
    have et : (A.1 1).toNat = t := by omega
    rw [ht]
    refine sp_read hn (by omega) I1.1 ht6 x1 x2 hE1 0 (fun p M2 v ep f2 b2 p2 => absurd (x3.symm.trans ep) (by intro h; cases h)) (fun q2 M2 eq f2 b2 => ?_)
    obtain rfl : q = q2 := by have h := x3.symm.trans eq; cases h; rfl
    have F2 := F1.tr (f2.mono VMq.s)
    have R2 := VMs.sr F2 hR
    replace k := k M2 F2
    rw [et, x4] at k
    change Wp _ _ _ _ _ _ _ _ ((0, (q.1.2 (nmA A true x y))) :: _) _ _ _
    refine wp_istore (loc' := [(2, 69), (0, 0), (0, x), (0, y), (0, (q.1.2 (nmA A true x y)))]) dX8_says_124 (Nat.le_of_ble_eq_true rfl) rfl ?_
    refine wp_iload_n dX8_says_126 rfl rfl ?_
    refine wp_if_ne (tgt := 135) dX8_says_127 (by decide) (fun h => absurd h (by decide)) (fun _ => ?_)
    refine wp_iload dX8_says_130 rfl ?_
    refine wp_goto (tgt := 153) dX8_says_132 (by decide) ?_
    refine wp_iret rfl dX8_says_153 ?_
    exact k
  · refine wp_if_eq (tgt := 26) dX8_says_19 (by decide) (fun _ => ?_) (fun h => absurd h (by decide))
    refine wp_iconst dX8_says_26 (by decide) ?_
    refine wp_puti 69 rfl fl_RX8_204 rfl ⟨by omega, by omega⟩ dX8_says_27 rfl rfl ?_
    refine wp_aload_n dX8_says_30 rfl rfl ?_
    refine wp_aload_n dX8_says_31 rfl rfl ?_
    refine wp_get 69 rfl fl_RX8_26 rfl ⟨by omega, by omega⟩ dX8_says_32 rfl (v := 74) (sr_69_9 (M := M) hR) ?_
    refine wp_iconst dX8_says_35 (by decide) ?_
    refine wp_iload_n dX8_says_36 rfl rfl ?_
    refine wp_imul dX8_says_37 (by omega) ?_
    refine wp_iald 74 rfl rfl ⟨by omega, by omega⟩ ⟨by omega, by omega⟩ dX8_says_38 (v := (A.2 1 x.toNat)) (by rw [show ((4 * x)).toNat = (4 * x.toNat) by omega]; exact hA.2.2.2.2.2.1 0 x.toNat (by omega) (by omega)) ?_
    refine wp_puti 69 rfl fl_RX8_207 rfl ⟨by omega, by omega⟩ dX8_says_39 rfl rfl ?_
    refine wp_aload_n dX8_says_42 rfl rfl ?_
    refine wp_iload_n dX8_says_43 rfl rfl ?_
    refine wp_if_le (tgt := 51) dX8_says_44 (by decide) (fun _ => ?_) (fun h => absurd h (by decide))
    refine wp_aload_n dX8_says_51 rfl rfl ?_
    refine wp_get 69 rfl fl_RX8_26 rfl ⟨by omega, by omega⟩ dX8_says_52 rfl (v := 74) (sr_69_9 (M := M) hR) ?_
    refine wp_iconst dX8_says_55 (by decide) ?_
    refine wp_iload_n dX8_says_56 rfl rfl ?_
    refine wp_imul dX8_says_57 (by omega) ?_
    refine wp_iald 74 rfl rfl ⟨by omega, by omega⟩ ⟨by omega, by omega⟩ dX8_says_58 (v := (A.2 1 y.toNat)) (by rw [show ((4 * y)).toNat = (4 * y.toNat) by omega]; exact hA.2.2.2.2.2.1 0 y.toNat (by omega) (by omega)) ?_
    refine wp_puti 69 rfl fl_RX8_210 rfl ⟨by omega, by omega⟩ dX8_says_59 rfl rfl ?_
    refine wp_aload_n dX8_says_62 rfl rfl ?_
    refine wp_aload_n dX8_says_63 rfl rfl ?_
    refine wp_get 69 rfl fl_RX8_113 rfl ⟨by omega, by omega⟩ dX8_says_64 rfl (v := (A.1 0)) (hA.1) ?_
    refine wp_puti 69 rfl fl_RX8_213 rfl ⟨by omega, by omega⟩ dX8_says_67 rfl rfl ?_
    refine wp_aload_n dX8_says_70 rfl rfl ?_
    refine wp_iload_n dX8_says_71 rfl rfl ?_
    refine wp_if_le (tgt := 88) dX8_says_72 (by decide) (fun _ => ?_) (fun h => absurd h (by decide))
    refine wp_aload_n dX8_says_88 rfl rfl ?_
    refine wp_get 69 rfl fl_RX8_26 rfl ⟨by omega, by omega⟩ dX8_says_89 rfl (v := 74) (sr_69_9 (M := M) hR) ?_
    refine wp_iconst dX8_says_92 (by decide) ?_
    refine wp_iload_n dX8_says_93 rfl rfl ?_
    refine wp_imul dX8_says_94 (by omega) ?_
    refine wp_iconst dX8_says_95 (by decide) ?_
    refine wp_iadd dX8_says_96 (by omega) ?_
    refine wp_iald 74 rfl rfl ⟨by omega, by omega⟩ ⟨by omega, by omega⟩ dX8_says_97 (v := (A.2 3 y.toNat)) (by rw [show (((4 * y) + 2)).toNat = (4 * y.toNat + 2) by omega]; exact hA.2.2.2.2.2.1 2 y.toNat (by omega) (by omega)) ?_
    refine wp_puti 69 rfl fl_RX8_216 rfl ⟨by omega, by omega⟩ dX8_says_98 rfl rfl ?_
    refine wp_aload_n dX8_says_101 rfl rfl ?_
    refine wp_aload_n dX8_says_102 rfl rfl ?_
    refine wp_get 69 rfl fl_RX8_26 rfl ⟨by omega, by omega⟩ dX8_says_103 rfl (v := 74) (sr_69_9 (M := M) hR) ?_
    refine wp_iconst dX8_says_106 (by decide) ?_
    refine wp_iload_n dX8_says_107 rfl rfl ?_
    refine wp_imul dX8_says_108 (by omega) ?_
    refine wp_iconst dX8_says_109 (by decide) ?_
    refine wp_iadd dX8_says_110 (by omega) ?_
    refine wp_iald 74 rfl rfl ⟨by omega, by omega⟩ ⟨by omega, by omega⟩ dX8_says_111 (v := (A.2 4 x.toNat)) (by rw [show (((4 * x) + 3)).toNat = (4 * x.toNat + 3) by omega]; exact hA.2.2.2.2.2.1 3 x.toNat (by omega) (by omega)) ?_
    refine wp_puti 69 rfl fl_RX8_219 rfl ⟨by omega, by omega⟩ dX8_says_112 rfl rfl ?_
    refine wp_aload_n dX8_says_115 rfl rfl ?_
    refine wp_aload_n dX8_says_116 rfl rfl ?_
    refine wp_get 69 rfl fl_RX8_116 rfl ⟨by omega, by omega⟩ dX8_says_117 rfl (v := (A.1 1)) (hA.2.1) ?_
    refine wp_iload_n dX8_says_120 rfl rfl ?_
    refine wp_callV0 (d' := d - 1) cv_RX8_349 69 rfl [(0, (A.1 1)), (0, 0)] [] rfl rfl (Or.inl ⟨_, _, rfl, by decide, rfl, by omega, by omega⟩) (by omega) (Nat.le_of_ble_eq_true rfl) dX8_says_121 rfl (Nat.le_of_ble_eq_true rfl) (by omega) (loc1 := [(2, 69), (0, (A.1 1)), (0, 0), (9, 0), (9, 0), (9, 0)]) rfl ?_
    have F1 : Fr VMs M (mu (mu (mu (mu (mu (mu M 69 13 0) 69 14 (A.2 1 x.toNat)) 69 15 (A.2 1 y.toNat)) 69 16 (A.1 0)) 69 17 (A.2 3 y.toNat)) 69 18 (A.2 4 x.toNat)) := (((((((Fr.rf : Fr VMs M M).put ⟨rfl, by omega, by omega⟩).put ⟨rfl, by omega, by omega⟩).put ⟨rfl, by omega, by omega⟩).put ⟨rfl, by omega, by omega⟩).put ⟨rfl, by omega, by omega⟩).put ⟨rfl, by omega, by omega⟩)
    have I1 := hI.frs F1
    have hE1 : ENm (mu (mu (mu (mu (mu (mu M 69 13 0) 69 14 (A.2 1 x.toNat)) 69 15 (A.2 1 y.toNat)) 69 16 (A.1 0)) 69 17 (A.2 3 y.toNat)) 69 18 (A.2 4 x.toNat)) (nmA A true x y) := by
      refine ⟨?_, rfl, rfl, rfl, rfl, rfl⟩
      have hb := bnd1 (shr (A.2 2 x.toNat) y)
      show 0 = bnd (shr (A.2 2 x.toNat) y) 1
      omega
    generalize (mu (mu (mu (mu (mu (mu M 69 13 0) 69 14 (A.2 1 x.toNat)) 69 15 (A.2 1 y.toNat)) 69 16 (A.1 0)) 69 17 (A.2 3 y.toNat)) 69 18 (A.2 4 x.toNat)) = N1 at F1 I1 hE1 ⊢
    obtain ⟨t, ht⟩ := Int.eq_ofNat_of_zero_le hr.1
    obtain ⟨f, z, q, x1, x2, x3, x4, x5, x6⟩ := I1.2.2.2.2.2.2 t (by have := I1.2.2.2.1.2; omega)
    have ht6 : t < 6 := by have := hX.2.1; omega
    have et : (A.1 1).toNat = t := by omega
    rw [ht]
    refine sp_read hn (by omega) I1.1 ht6 x1 x2 hE1 0 (fun p M2 v ep f2 b2 p2 => absurd (x3.symm.trans ep) (by intro h; cases h)) (fun q2 M2 eq f2 b2 => ?_)
    obtain rfl : q = q2 := by have h := x3.symm.trans eq; cases h; rfl
    have F2 := F1.tr (f2.mono VMq.s)
    have R2 := VMs.sr F2 hR
    replace k := k M2 F2
    rw [et, x4] at k
    change Wp _ _ _ _ _ _ _ _ ((0, (q.1.2 (nmA A true x y))) :: _) _ _ _
    refine wp_istore (loc' := [(2, 69), (0, 0), (0, x), (0, y), (0, (q.1.2 (nmA A true x y)))]) dX8_says_124 (Nat.le_of_ble_eq_true rfl) rfl ?_
    refine wp_iload_n dX8_says_126 rfl rfl ?_
    refine wp_if_ne (tgt := 135) dX8_says_127 (by decide) (fun h => absurd h (by decide)) (fun _ => ?_)
    refine wp_iload dX8_says_130 rfl ?_
    refine wp_goto (tgt := 153) dX8_says_132 (by decide) ?_
    refine wp_iret rfl dX8_says_153 ?_
    exact k
set_option maxRecDepth 20000 in
set_option maxHeartbeats 4000000 in
theorem sp_says1 {l : Launch} {g : Gw} {d n : Nat} {M : Mm} {Q : Option Wd → Mm → Prop} (hn : 90 ≤ n) {A : Ls} {E : Ev} (hI : MJ M A E) (hd : 64 ≤ d) (x y : Int) (hx : 0 ≤ x ∧ x < A.1 2) (hy : 0 ≤ y ∧ y < A.1 2) (k : ∀ M', Fr VMs M M' → Q (some (0, wthn 0 40 (E (A.1 1).toNat 1 (nmA A false x (-1))))) M') : Wp l g d 0 0 n m_X8_says 0 [] [(2, 69), (0, 1), (0, x), (0, y), (9, 0)] M Q := by
  obtain ⟨hR, hA, hW, hr, hX⟩ := id hI
  have w2 := hW.1
  have w5 := hW.2.1
  have w3 := hW.2.2.1
  have w32 := hW.2.2.2.1
  refine wp_aload_n dX8_says_0 rfl rfl ?_
  refine wp_iload_n dX8_says_1 rfl rfl ?_
  refine wp_if_le (tgt := 13) dX8_says_2 (by decide) (fun h => absurd h (by decide)) (fun _ => ?_)
  refine wp_aload_n dX8_says_5 rfl rfl ?_
  refine wp_iload_n dX8_says_6 rfl rfl ?_
  refine wp_callV0 (d' := d - 1) cv_RX8_141 69 rfl [(0, x)] [(2, 69)] rfl rfl (Or.inl ⟨_, _, rfl, by decide, rfl, by omega, by omega⟩) (by omega) (Nat.le_of_ble_eq_true rfl) dX8_says_7 rfl (Nat.le_of_ble_eq_true rfl) (by omega) (loc1 := [(2, 69), (0, x), (9, 0), (9, 0)]) rfl ?_
  refine sp_lkbm hn (by omega) hI x ?_
  refine wp_goto (tgt := 27) dX8_says_10 (by decide) ?_
  refine wp_puti 69 rfl fl_RX8_204 rfl ⟨by omega, by omega⟩ dX8_says_27 rfl rfl ?_
  refine wp_aload_n dX8_says_30 rfl rfl ?_
  refine wp_aload_n dX8_says_31 rfl rfl ?_
  refine wp_get 69 rfl fl_RX8_26 rfl ⟨by omega, by omega⟩ dX8_says_32 rfl (v := 74) (sr_69_9 (M := M) hR) ?_
  refine wp_iconst dX8_says_35 (by decide) ?_
  refine wp_iload_n dX8_says_36 rfl rfl ?_
  refine wp_imul dX8_says_37 (by omega) ?_
  refine wp_iald 74 rfl rfl ⟨by omega, by omega⟩ ⟨by omega, by omega⟩ dX8_says_38 (v := (A.2 1 x.toNat)) (by rw [show ((4 * x)).toNat = (4 * x.toNat) by omega]; exact hA.2.2.2.2.2.1 0 x.toNat (by omega) (by omega)) ?_
  refine wp_puti 69 rfl fl_RX8_207 rfl ⟨by omega, by omega⟩ dX8_says_39 rfl rfl ?_
  refine wp_aload_n dX8_says_42 rfl rfl ?_
  refine wp_iload_n dX8_says_43 rfl rfl ?_
  refine wp_if_le (tgt := 51) dX8_says_44 (by decide) (fun h => absurd h (by decide)) (fun _ => ?_)
  refine wp_iconst dX8_says_47 (by decide) ?_
  refine wp_goto (tgt := 59) dX8_says_48 (by decide) ?_
  refine wp_puti 69 rfl fl_RX8_210 rfl ⟨by omega, by omega⟩ dX8_says_59 rfl rfl ?_
  refine wp_aload_n dX8_says_62 rfl rfl ?_
  refine wp_aload_n dX8_says_63 rfl rfl ?_
  refine wp_get 69 rfl fl_RX8_113 rfl ⟨by omega, by omega⟩ dX8_says_64 rfl (v := (A.1 0)) (hA.1) ?_
  refine wp_puti 69 rfl fl_RX8_213 rfl ⟨by omega, by omega⟩ dX8_says_67 rfl rfl ?_
  refine wp_aload_n dX8_says_70 rfl rfl ?_
  refine wp_iload_n dX8_says_71 rfl rfl ?_
  refine wp_if_le (tgt := 88) dX8_says_72 (by decide) (fun h => absurd h (by decide)) (fun _ => ?_)
  refine wp_aload_n dX8_says_75 rfl rfl ?_
  refine wp_get 69 rfl fl_RX8_26 rfl ⟨by omega, by omega⟩ dX8_says_76 rfl (v := 74) (sr_69_9 (M := M) hR) ?_
  refine wp_iconst dX8_says_79 (by decide) ?_
  refine wp_iload_n dX8_says_80 rfl rfl ?_
  refine wp_imul dX8_says_81 (by omega) ?_
  refine wp_iconst dX8_says_82 (by decide) ?_
  refine wp_iadd dX8_says_83 (by omega) ?_
  refine wp_iald 74 rfl rfl ⟨by omega, by omega⟩ ⟨by omega, by omega⟩ dX8_says_84 (v := (A.2 3 x.toNat)) (by rw [show (((4 * x) + 2)).toNat = (4 * x.toNat + 2) by omega]; exact hA.2.2.2.2.2.1 2 x.toNat (by omega) (by omega)) ?_
  refine wp_goto (tgt := 98) dX8_says_85 (by decide) ?_
  refine wp_puti 69 rfl fl_RX8_216 rfl ⟨by omega, by omega⟩ dX8_says_98 rfl rfl ?_
  refine wp_aload_n dX8_says_101 rfl rfl ?_
  refine wp_aload_n dX8_says_102 rfl rfl ?_
  refine wp_get 69 rfl fl_RX8_26 rfl ⟨by omega, by omega⟩ dX8_says_103 rfl (v := 74) (sr_69_9 (M := M) hR) ?_
  refine wp_iconst dX8_says_106 (by decide) ?_
  refine wp_iload_n dX8_says_107 rfl rfl ?_
  refine wp_imul dX8_says_108 (by omega) ?_
  refine wp_iconst dX8_says_109 (by decide) ?_
  refine wp_iadd dX8_says_110 (by omega) ?_
  refine wp_iald 74 rfl rfl ⟨by omega, by omega⟩ ⟨by omega, by omega⟩ dX8_says_111 (v := (A.2 4 x.toNat)) (by rw [show (((4 * x) + 3)).toNat = (4 * x.toNat + 3) by omega]; exact hA.2.2.2.2.2.1 3 x.toNat (by omega) (by omega)) ?_
  refine wp_puti 69 rfl fl_RX8_219 rfl ⟨by omega, by omega⟩ dX8_says_112 rfl rfl ?_
  refine wp_aload_n dX8_says_115 rfl rfl ?_
  refine wp_aload_n dX8_says_116 rfl rfl ?_
  refine wp_get 69 rfl fl_RX8_116 rfl ⟨by omega, by omega⟩ dX8_says_117 rfl (v := (A.1 1)) (hA.2.1) ?_
  refine wp_iload_n dX8_says_120 rfl rfl ?_
  refine wp_callV0 (d' := d - 1) cv_RX8_349 69 rfl [(0, (A.1 1)), (0, 1)] [] rfl rfl (Or.inl ⟨_, _, rfl, by decide, rfl, by omega, by omega⟩) (by omega) (Nat.le_of_ble_eq_true rfl) dX8_says_121 rfl (Nat.le_of_ble_eq_true rfl) (by omega) (loc1 := [(2, 69), (0, (A.1 1)), (0, 1), (9, 0), (9, 0), (9, 0)]) rfl ?_
  have F1 : Fr VMs M (mu (mu (mu (mu (mu (mu M 69 13 (lkr (A.2 2) x (A.1 2).toNat)) 69 14 (A.2 1 x.toNat)) 69 15 0) 69 16 (A.1 0)) 69 17 (A.2 3 x.toNat)) 69 18 (A.2 4 x.toNat)) := (((((((Fr.rf : Fr VMs M M).put ⟨rfl, by omega, by omega⟩).put ⟨rfl, by omega, by omega⟩).put ⟨rfl, by omega, by omega⟩).put ⟨rfl, by omega, by omega⟩).put ⟨rfl, by omega, by omega⟩).put ⟨rfl, by omega, by omega⟩)
  have I1 := hI.frs F1
  have hE1 : ENm (mu (mu (mu (mu (mu (mu M 69 13 (lkr (A.2 2) x (A.1 2).toNat)) 69 14 (A.2 1 x.toNat)) 69 15 0) 69 16 (A.1 0)) 69 17 (A.2 3 x.toNat)) 69 18 (A.2 4 x.toNat)) (nmA A false x (-1)) := by
    refine ⟨?_, rfl, rfl, rfl, rfl, rfl⟩
    rfl
  generalize (mu (mu (mu (mu (mu (mu M 69 13 (lkr (A.2 2) x (A.1 2).toNat)) 69 14 (A.2 1 x.toNat)) 69 15 0) 69 16 (A.1 0)) 69 17 (A.2 3 x.toNat)) 69 18 (A.2 4 x.toNat)) = N1 at F1 I1 hE1 ⊢
  obtain ⟨t, ht⟩ := Int.eq_ofNat_of_zero_le hr.1
  obtain ⟨f, z, q, x1, x2, x3, x4, x5, x6⟩ := I1.2.2.2.2.2.2 t (by have := I1.2.2.2.1.2; omega)
  have ht6 : t < 6 := by have := hX.2.1; omega
  have et : (A.1 1).toNat = t := by omega
  rw [ht]
  refine sp_read hn (by omega) I1.1 ht6 x1 x2 hE1 1 (fun p M2 v ep f2 b2 p2 => absurd (x3.symm.trans ep) (by intro h; cases h)) (fun q2 M2 eq f2 b2 => ?_)
  obtain rfl : q = q2 := by have h := x3.symm.trans eq; cases h; rfl
  have F2 := F1.tr (f2.mono VMq.s)
  have R2 := VMs.sr F2 hR
  replace k := k M2 F2
  rw [et, x5] at k
  change Wp _ _ _ _ _ _ _ _ ((0, (q.2.1.2 (nmA A false x (-1)))) :: _) _ _ _
  refine wp_istore (loc' := [(2, 69), (0, 1), (0, x), (0, y), (0, (q.2.1.2 (nmA A false x (-1))))]) dX8_says_124 (Nat.le_of_ble_eq_true rfl) rfl ?_
  refine wp_iload_n dX8_says_126 rfl rfl ?_
  refine wp_if_ne (tgt := 135) dX8_says_127 (by decide) (fun _ => ?_) (fun h => absurd h (by decide))
  refine wp_iload dX8_says_135 rfl ?_
  refine wp_iconst dX8_says_137 (by decide) ?_
  refine wp_iload_n dX8_says_138 rfl rfl ?_
  refine wp_iconst dX8_says_139 (by decide) ?_
  refine wp_icmp_ne (tgt := 148) dX8_says_140 (by decide) (fun h => absurd h (by decide)) (fun _ => ?_)
  refine wp_bipush dX8_says_143 (by decide) (by decide) ?_
  refine wp_goto (tgt := 150) dX8_says_145 (by decide) ?_
  refine wp_callS0 (d' := d - 1) cs_RX8_355 [(0, (q.2.1.2 (nmA A false x (-1)))), (0, 0), (0, 40)] [] rfl rfl (Nat.le_of_ble_eq_true rfl) dX8_says_150 rfl (Nat.le_of_ble_eq_true rfl) (by omega) (loc1 := [(0, (q.2.1.2 (nmA A false x (-1)))), (0, 0), (0, 40)]) rfl ?_
  refine sp_withm (q.2.1.2 (nmA A false x (-1))) 0 40 ?_
  refine wp_iret rfl dX8_says_153 ?_
  exact k
set_option maxRecDepth 20000 in
set_option maxHeartbeats 4000000 in
theorem sp_says2 {l : Launch} {g : Gw} {d n : Nat} {M : Mm} {Q : Option Wd → Mm → Prop} (hn : 90 ≤ n) {A : Ls} {E : Ev} (hI : MJ M A E) (hd : 64 ≤ d) (x y : Int) (hx : 0 ≤ x ∧ x < A.1 2) (hy : 0 ≤ y ∧ y < A.1 2) (k : ∀ M', Fr VMs M M' → Q (some (0, wthn 0 99 (E (A.1 1).toNat 2 (nmA A false x (-1))))) M') : Wp l g d 0 0 n m_X8_says 0 [] [(2, 69), (0, 2), (0, x), (0, y), (9, 0)] M Q := by
  obtain ⟨hR, hA, hW, hr, hX⟩ := id hI
  have w2 := hW.1
  have w5 := hW.2.1
  have w3 := hW.2.2.1
  have w32 := hW.2.2.2.1
  refine wp_aload_n dX8_says_0 rfl rfl ?_
  refine wp_iload_n dX8_says_1 rfl rfl ?_
  refine wp_if_le (tgt := 13) dX8_says_2 (by decide) (fun h => absurd h (by decide)) (fun _ => ?_)
  refine wp_aload_n dX8_says_5 rfl rfl ?_
  refine wp_iload_n dX8_says_6 rfl rfl ?_
  refine wp_callV0 (d' := d - 1) cv_RX8_141 69 rfl [(0, x)] [(2, 69)] rfl rfl (Or.inl ⟨_, _, rfl, by decide, rfl, by omega, by omega⟩) (by omega) (Nat.le_of_ble_eq_true rfl) dX8_says_7 rfl (Nat.le_of_ble_eq_true rfl) (by omega) (loc1 := [(2, 69), (0, x), (9, 0), (9, 0)]) rfl ?_
  refine sp_lkbm hn (by omega) hI x ?_
  refine wp_goto (tgt := 27) dX8_says_10 (by decide) ?_
  refine wp_puti 69 rfl fl_RX8_204 rfl ⟨by omega, by omega⟩ dX8_says_27 rfl rfl ?_
  refine wp_aload_n dX8_says_30 rfl rfl ?_
  refine wp_aload_n dX8_says_31 rfl rfl ?_
  refine wp_get 69 rfl fl_RX8_26 rfl ⟨by omega, by omega⟩ dX8_says_32 rfl (v := 74) (sr_69_9 (M := M) hR) ?_
  refine wp_iconst dX8_says_35 (by decide) ?_
  refine wp_iload_n dX8_says_36 rfl rfl ?_
  refine wp_imul dX8_says_37 (by omega) ?_
  refine wp_iald 74 rfl rfl ⟨by omega, by omega⟩ ⟨by omega, by omega⟩ dX8_says_38 (v := (A.2 1 x.toNat)) (by rw [show ((4 * x)).toNat = (4 * x.toNat) by omega]; exact hA.2.2.2.2.2.1 0 x.toNat (by omega) (by omega)) ?_
  refine wp_puti 69 rfl fl_RX8_207 rfl ⟨by omega, by omega⟩ dX8_says_39 rfl rfl ?_
  refine wp_aload_n dX8_says_42 rfl rfl ?_
  refine wp_iload_n dX8_says_43 rfl rfl ?_
  refine wp_if_le (tgt := 51) dX8_says_44 (by decide) (fun h => absurd h (by decide)) (fun _ => ?_)
  refine wp_iconst dX8_says_47 (by decide) ?_
  refine wp_goto (tgt := 59) dX8_says_48 (by decide) ?_
  refine wp_puti 69 rfl fl_RX8_210 rfl ⟨by omega, by omega⟩ dX8_says_59 rfl rfl ?_
  refine wp_aload_n dX8_says_62 rfl rfl ?_
  refine wp_aload_n dX8_says_63 rfl rfl ?_
  refine wp_get 69 rfl fl_RX8_113 rfl ⟨by omega, by omega⟩ dX8_says_64 rfl (v := (A.1 0)) (hA.1) ?_
  refine wp_puti 69 rfl fl_RX8_213 rfl ⟨by omega, by omega⟩ dX8_says_67 rfl rfl ?_
  refine wp_aload_n dX8_says_70 rfl rfl ?_
  refine wp_iload_n dX8_says_71 rfl rfl ?_
  refine wp_if_le (tgt := 88) dX8_says_72 (by decide) (fun h => absurd h (by decide)) (fun _ => ?_)
  refine wp_aload_n dX8_says_75 rfl rfl ?_
  refine wp_get 69 rfl fl_RX8_26 rfl ⟨by omega, by omega⟩ dX8_says_76 rfl (v := 74) (sr_69_9 (M := M) hR) ?_
  refine wp_iconst dX8_says_79 (by decide) ?_
  refine wp_iload_n dX8_says_80 rfl rfl ?_
  refine wp_imul dX8_says_81 (by omega) ?_
  refine wp_iconst dX8_says_82 (by decide) ?_
  refine wp_iadd dX8_says_83 (by omega) ?_
  refine wp_iald 74 rfl rfl ⟨by omega, by omega⟩ ⟨by omega, by omega⟩ dX8_says_84 (v := (A.2 3 x.toNat)) (by rw [show (((4 * x) + 2)).toNat = (4 * x.toNat + 2) by omega]; exact hA.2.2.2.2.2.1 2 x.toNat (by omega) (by omega)) ?_
  refine wp_goto (tgt := 98) dX8_says_85 (by decide) ?_
  refine wp_puti 69 rfl fl_RX8_216 rfl ⟨by omega, by omega⟩ dX8_says_98 rfl rfl ?_
  refine wp_aload_n dX8_says_101 rfl rfl ?_
  refine wp_aload_n dX8_says_102 rfl rfl ?_
  refine wp_get 69 rfl fl_RX8_26 rfl ⟨by omega, by omega⟩ dX8_says_103 rfl (v := 74) (sr_69_9 (M := M) hR) ?_
  refine wp_iconst dX8_says_106 (by decide) ?_
  refine wp_iload_n dX8_says_107 rfl rfl ?_
  refine wp_imul dX8_says_108 (by omega) ?_
  refine wp_iconst dX8_says_109 (by decide) ?_
  refine wp_iadd dX8_says_110 (by omega) ?_
  refine wp_iald 74 rfl rfl ⟨by omega, by omega⟩ ⟨by omega, by omega⟩ dX8_says_111 (v := (A.2 4 x.toNat)) (by rw [show (((4 * x) + 3)).toNat = (4 * x.toNat + 3) by omega]; exact hA.2.2.2.2.2.1 3 x.toNat (by omega) (by omega)) ?_
  refine wp_puti 69 rfl fl_RX8_219 rfl ⟨by omega, by omega⟩ dX8_says_112 rfl rfl ?_
  refine wp_aload_n dX8_says_115 rfl rfl ?_
  refine wp_aload_n dX8_says_116 rfl rfl ?_
  refine wp_get 69 rfl fl_RX8_116 rfl ⟨by omega, by omega⟩ dX8_says_117 rfl (v := (A.1 1)) (hA.2.1) ?_
  refine wp_iload_n dX8_says_120 rfl rfl ?_
  refine wp_callV0 (d' := d - 1) cv_RX8_349 69 rfl [(0, (A.1 1)), (0, 2)] [] rfl rfl (Or.inl ⟨_, _, rfl, by decide, rfl, by omega, by omega⟩) (by omega) (Nat.le_of_ble_eq_true rfl) dX8_says_121 rfl (Nat.le_of_ble_eq_true rfl) (by omega) (loc1 := [(2, 69), (0, (A.1 1)), (0, 2), (9, 0), (9, 0), (9, 0)]) rfl ?_
  have F1 : Fr VMs M (mu (mu (mu (mu (mu (mu M 69 13 (lkr (A.2 2) x (A.1 2).toNat)) 69 14 (A.2 1 x.toNat)) 69 15 0) 69 16 (A.1 0)) 69 17 (A.2 3 x.toNat)) 69 18 (A.2 4 x.toNat)) := (((((((Fr.rf : Fr VMs M M).put ⟨rfl, by omega, by omega⟩).put ⟨rfl, by omega, by omega⟩).put ⟨rfl, by omega, by omega⟩).put ⟨rfl, by omega, by omega⟩).put ⟨rfl, by omega, by omega⟩).put ⟨rfl, by omega, by omega⟩)
  have I1 := hI.frs F1
  have hE1 : ENm (mu (mu (mu (mu (mu (mu M 69 13 (lkr (A.2 2) x (A.1 2).toNat)) 69 14 (A.2 1 x.toNat)) 69 15 0) 69 16 (A.1 0)) 69 17 (A.2 3 x.toNat)) 69 18 (A.2 4 x.toNat)) (nmA A false x (-1)) := by
    refine ⟨?_, rfl, rfl, rfl, rfl, rfl⟩
    rfl
  generalize (mu (mu (mu (mu (mu (mu M 69 13 (lkr (A.2 2) x (A.1 2).toNat)) 69 14 (A.2 1 x.toNat)) 69 15 0) 69 16 (A.1 0)) 69 17 (A.2 3 x.toNat)) 69 18 (A.2 4 x.toNat)) = N1 at F1 I1 hE1 ⊢
  obtain ⟨t, ht⟩ := Int.eq_ofNat_of_zero_le hr.1
  obtain ⟨f, z, q, x1, x2, x3, x4, x5, x6⟩ := I1.2.2.2.2.2.2 t (by have := I1.2.2.2.1.2; omega)
  have ht6 : t < 6 := by have := hX.2.1; omega
  have et : (A.1 1).toNat = t := by omega
  rw [ht]
  refine sp_read hn (by omega) I1.1 ht6 x1 x2 hE1 2 (fun p M2 v ep f2 b2 p2 => absurd (x3.symm.trans ep) (by intro h; cases h)) (fun q2 M2 eq f2 b2 => ?_)
  obtain rfl : q = q2 := by have h := x3.symm.trans eq; cases h; rfl
  have F2 := F1.tr (f2.mono VMq.s)
  have R2 := VMs.sr F2 hR
  replace k := k M2 F2
  rw [et, x6] at k
  change Wp _ _ _ _ _ _ _ _ ((0, (q.2.2.2 (nmA A false x (-1)))) :: _) _ _ _
  refine wp_istore (loc' := [(2, 69), (0, 2), (0, x), (0, y), (0, (q.2.2.2 (nmA A false x (-1))))]) dX8_says_124 (Nat.le_of_ble_eq_true rfl) rfl ?_
  refine wp_iload_n dX8_says_126 rfl rfl ?_
  refine wp_if_ne (tgt := 135) dX8_says_127 (by decide) (fun _ => ?_) (fun h => absurd h (by decide))
  refine wp_iload dX8_says_135 rfl ?_
  refine wp_iconst dX8_says_137 (by decide) ?_
  refine wp_iload_n dX8_says_138 rfl rfl ?_
  refine wp_iconst dX8_says_139 (by decide) ?_
  refine wp_icmp_ne (tgt := 148) dX8_says_140 (by decide) (fun _ => ?_) (fun h => absurd h (by decide))
  refine wp_bipush dX8_says_148 (by decide) (by decide) ?_
  refine wp_callS0 (d' := d - 1) cs_RX8_355 [(0, (q.2.2.2 (nmA A false x (-1)))), (0, 0), (0, 99)] [] rfl rfl (Nat.le_of_ble_eq_true rfl) dX8_says_150 rfl (Nat.le_of_ble_eq_true rfl) (by omega) (loc1 := [(0, (q.2.2.2 (nmA A false x (-1)))), (0, 0), (0, 99)]) rfl ?_
  refine sp_withm (q.2.2.2 (nmA A false x (-1))) 0 99 ?_
  refine wp_iret rfl dX8_says_153 ?_
  exact k
