/-! ===== the model's reader: letters, tokens ===== -/
theorem lcp_lt {x y : Int} : lcp x y < 0 ↔ x < y := by
  unfold lcp
  split
  · omega
  · split <;> omega
theorem lcp_gt {x y : Int} : lcp x y > 0 ↔ y < x := by
  unfold lcp
  split
  · omega
  · split <;> omega
theorem lcp_eq {x y : Int} : lcp x y = 0 ↔ x = y := by
  unfold lcp
  split
  · omega
  · split <;> omega
def TPm (M : Mm) (t : Nat) (f : Nat → Int) (z : Int) : Prop := SR M ∧ M 69 19 = 160 * (t : Int) ∧ t < 6 ∧ M 69 20 = z ∧ 0 ≤ z ∧ z ≤ 160 ∧ ∀ i : Nat, (i : Int) < z → M 70 (160 * t + i) = f i
def VMr (i j : Nat) : Prop := i = 69 ∧ 21 ≤ j ∧ j ≤ 27
theorem VMr.sr {M M' : Mm} (h : Fr VMr M M') (hR : SR M) : SR M' := hR.frL h (by unfold VMr; decide +kernel)
theorem TPm.fr {M M' : Mm} {t : Nat} {f : Nat → Int} {z : Int} (h : TPm M t f z) (g : Fr VMr M M') : TPm M' t f z := by
  obtain ⟨h1, h2, h3, h4, h5, h6, h7⟩ := h
  exact ⟨VMr.sr g h1, (g 69 19 (by unfold VMr; omega)).trans h2, h3, (g 69 20 (by unfold VMr; omega)).trans h4, h5, h6, fun i hi => (g 70 _ (by unfold VMr; omega)).trans (h7 i hi)⟩
def VM1 (i j : Nat) : Prop := i = 69 ∧ 21 ≤ j ∧ j ≤ 24
theorem VM1.r : ∀ i j, VM1 i j → VMr i j := by
  intro i j h
  unfold VM1 at h
  unfold VMr
  omega
/-- the token's kind and worth, as the model has them -/
def wordAt (f : Nat → Int) (z : Int) (x : Nat) : Prop := ltA f z (lxA f z x) ≠ -1 ∧ ltr (ltA f z (lxA f z x)) = true
def tokR (f : Nat → Int) (z : Int) (x : Nat) (tk w : Int) : Prop := (tk = 0 ∧ lxT f z x = 0) ∨ (tk = 1 ∧ wordAt f z x) ∨ (tk = 2 ∧ lxT f z x = 2 ∧ w = lxV f z x) ∨ (tk = 3 ∧ w = lxT f z x ∧ sgnC (lxT f z x) = true) ∨ (tk = 4 ∧ lxT f z x = 1)
def LXm (M : Mm) (f : Nat → Int) (z : Int) (x : Nat) : Prop := M 69 21 = (lxN f z x : Int) ∧ M 69 23 = (lxA f z x : Int) ∧ tokR f z x (M 69 22) (M 69 24)
set_option maxRecDepth 20000 in
set_option maxHeartbeats 4000000 in
theorem sp_in {l : Launch} {g : Gw} {d n : Nat} {M : Mm} {Q : Option Wd → Mm → Prop} (v a b : Int) (kt : a ≤ v ∧ v ≤ b → Q (some (0, 1)) M) (kf : ¬ (a ≤ v ∧ v ≤ b) → Q (some (0, 0)) M) : Wp l g d 0 0 n m_X8_in 0 [] [(1, v), (9, 0), (1, a), (9, 0), (1, b), (9, 0)] M Q := by
  refine wp_lload_n dX8_in_0 rfl rfl ?_
  refine wp_lload_n dX8_in_1 rfl rfl ?_
  refine wp_lcmp dX8_in_2 ?_
  refine wp_if_lt (tgt := 17) dX8_in_3 (by decide) (fun h3 => ?_) (fun h3 => ?_)
  · refine wp_iconst dX8_in_17 (by decide) ?_
    refine wp_zret rfl (by omega) dX8_in_18 ?_
    exact kf (by have := lcp_lt (x := v) (y := a); have := lcp_gt (x := v) (y := b); omega)
  · refine wp_lload_n dX8_in_6 rfl rfl ?_
    refine wp_lload dX8_in_7 rfl ?_
    refine wp_lcmp dX8_in_9 ?_
    refine wp_if_gt (tgt := 17) dX8_in_10 (by decide) (fun h10 => ?_) (fun h10 => ?_)
    · refine wp_iconst dX8_in_17 (by decide) ?_
      refine wp_zret rfl (by omega) dX8_in_18 ?_
      exact kf (by have := lcp_lt (x := v) (y := a); have := lcp_gt (x := v) (y := b); omega)
    · refine wp_iconst dX8_in_13 (by decide) ?_
      refine wp_goto (tgt := 18) dX8_in_14 (by decide) ?_
      refine wp_zret rfl (by omega) dX8_in_18 ?_
      exact kt (by have := lcp_lt (x := v) (y := a); have := lcp_gt (x := v) (y := b); omega)
set_option maxRecDepth 20000 in
set_option maxHeartbeats 4000000 in
theorem sp_byteAt {l : Launch} {g : Gw} {d n : Nat} {M : Mm} {Q : Option Wd → Mm → Prop} (hn : 90 ≤ n) {t : Nat} {f : Nat → Int} {z : Int} (hP : TPm M t f z) (x : Nat) (hx : x ≤ 400) (k : Q (some (0, ltA f z (x : Int))) M) : Wp l g d 0 0 n m_X8_byteAt 0 [] [(2, 69), (0, (x : Int))] M Q := by
  obtain ⟨hR, h19, ht6, h20, hz0, hz1, h70⟩ := id hP
  refine wp_iload_n dX8_byteAt_0 rfl rfl ?_
  refine wp_aload_n dX8_byteAt_1 rfl rfl ?_
  refine wp_get 69 rfl fl_RX8_149 rfl ⟨by omega, by omega⟩ dX8_byteAt_2 rfl (v := z) (h20) ?_
  refine wp_icmp_ge (tgt := 22) dX8_byteAt_5 (by decide) (fun h5 => ?_) (fun h5 => ?_)
  · refine wp_iconst dX8_byteAt_22 (by decide) ?_
    refine wp_iret rfl dX8_byteAt_23 ?_
    rw [show (-1 : Int) = ltA f z (x : Int) from (if_neg (by omega)).symm]
    exact k
  · refine wp_aload_n dX8_byteAt_8 rfl rfl ?_
    refine wp_get 69 rfl fl_RX8_13 rfl ⟨by omega, by omega⟩ dX8_byteAt_9 rfl (v := 70) (sr_69_1 (M := M) hR) ?_
    refine wp_aload_n dX8_byteAt_12 rfl rfl ?_
    refine wp_get 69 rfl fl_RX8_152 rfl ⟨by omega, by omega⟩ dX8_byteAt_13 rfl (v := (160 * (t : Int))) (h19) ?_
    refine wp_iload_n dX8_byteAt_16 rfl rfl ?_
    refine wp_iadd dX8_byteAt_17 (by omega) ?_
    refine wp_iald 70 rfl rfl ⟨by omega, by omega⟩ ⟨by omega, by omega⟩ dX8_byteAt_18 (v := (ltA f z (x : Int))) (by rw [show (((160 * (t : Int)) + (x : Int))).toNat = (160 * t + x) by omega]; exact (h70 x (by omega)).trans (if_pos (by omega)).symm) ?_
    refine wp_goto (tgt := 23) dX8_byteAt_19 (by decide) ?_
    refine wp_iret rfl dX8_byteAt_23 ?_
    exact k
set_option maxRecDepth 20000 in
set_option maxHeartbeats 4000000 in
theorem lm_blank  {l : Launch} {g : Gw} {d n : Nat} (hn : 90 ≤ n) (hd : 2 ≤ d) {t : Nat} {f : Nat → Int} {z : Int} {u u2 : Wd} : ∀ (m x : Nat) (M : Mm) (Q : Option Wd → Mm → Prop), z ≤ (x : Int) + m → (x : Int) ≤ z → TPm M t f z → M 69 21 = (x : Int) → (∀ M', Fr VM1 M M' → M' 69 21 = (skp blk f z m x : Int) → Wp l g d 0 0 n m_X8_next 39 [] [(2, 69), u, u2] M' Q) → Wp l g d 0 0 n m_X8_next 0 [] [(2, 69), u, u2] M Q := by
  intro m
  induction m with
  | zero =>
    intro x M Q hm hxz hP hx k
    obtain ⟨hR, h19, ht6, h20, hz0, hz1, h70⟩ := id hP
    refine wp_aload_n dX8_next_0 rfl rfl ?_
    refine wp_aload_n dX8_next_1 rfl rfl ?_
    refine wp_get 69 rfl fl_RX8_155 rfl ⟨by omega, by omega⟩ dX8_next_2 rfl (v := (x : Int)) (hx) ?_
    refine wp_callV0 (d' := d - 1) cv_RX8_158 69 rfl [(0, (x : Int))] [] rfl rfl (Or.inl ⟨_, _, rfl, by decide, rfl, by omega, by omega⟩) (by omega) (Nat.le_of_ble_eq_true rfl) dX8_next_5 rfl (Nat.le_of_ble_eq_true rfl) (by omega) (loc1 := [(2, 69), (0, (x : Int))]) rfl ?_
    refine sp_byteAt hn hP x (by omega) ?_
    refine wp_bipush dX8_next_8 (by decide) (by decide) ?_
    refine wp_icmp_eq (tgt := 26) dX8_next_10 (by decide) (fun h => absurd h (by rw [show ltA f z (x : Int) = -1 from if_neg (by omega)]; decide)) (fun _ => ?_)
    refine wp_aload_n dX8_next_13 rfl rfl ?_
    refine wp_aload_n dX8_next_14 rfl rfl ?_
    refine wp_get 69 rfl fl_RX8_155 rfl ⟨by omega, by omega⟩ dX8_next_15 rfl (v := (x : Int)) (hx) ?_
    refine wp_callV0 (d' := d - 1) cv_RX8_158 69 rfl [(0, (x : Int))] [] rfl rfl (Or.inl ⟨_, _, rfl, by decide, rfl, by omega, by omega⟩) (by omega) (Nat.le_of_ble_eq_true rfl) dX8_next_18 rfl (Nat.le_of_ble_eq_true rfl) (by omega) (loc1 := [(2, 69), (0, (x : Int))]) rfl ?_
    refine sp_byteAt hn hP x (by omega) ?_
    refine wp_bipush dX8_next_21 (by decide) (by decide) ?_
    refine wp_icmp_ne (tgt := 39) dX8_next_23 (by decide) (fun _ => ?_) (fun h => absurd h (by rw [show ltA f z (x : Int) = -1 from if_neg (by omega)]; decide))
    exact k M Fr.rf hx
  | succ m ih =>
    intro x M Q hm hxz hP hx k
    obtain ⟨hR, h19, ht6, h20, hz0, hz1, h70⟩ := id hP
    refine wp_aload_n dX8_next_0 rfl rfl ?_
    refine wp_aload_n dX8_next_1 rfl rfl ?_
    refine wp_get 69 rfl fl_RX8_155 rfl ⟨by omega, by omega⟩ dX8_next_2 rfl (v := (x : Int)) (hx) ?_
    refine wp_callV0 (d' := d - 1) cv_RX8_158 69 rfl [(0, (x : Int))] [] rfl rfl (Or.inl ⟨_, _, rfl, by decide, rfl, by omega, by omega⟩) (by omega) (Nat.le_of_ble_eq_true rfl) dX8_next_5 rfl (Nat.le_of_ble_eq_true rfl) (by omega) (loc1 := [(2, 69), (0, (x : Int))]) rfl ?_
    refine sp_byteAt hn hP x (by omega) ?_
    refine wp_bipush dX8_next_8 (by decide) (by decide) ?_
    refine wp_icmp_eq (tgt := 26) dX8_next_10 (by decide) (fun h10 => ?_) (fun h10 => ?_)
    · refine wp_aload_n dX8_next_26 rfl rfl ?_
      refine wp_dup dX8_next_27 (Or.inr rfl) ?_
      refine wp_get 69 rfl fl_RX8_155 rfl ⟨by omega, by omega⟩ dX8_next_28 rfl (v := (x : Int)) (hx) ?_
      refine wp_iconst dX8_next_31 (by decide) ?_
      refine wp_iadd dX8_next_32 (by omega) ?_
      refine wp_puti 69 rfl fl_RX8_155 rfl ⟨by omega, by omega⟩ dX8_next_33 rfl rfl ?_
      refine wp_goto (tgt := 0) dX8_next_36 (by decide) ?_
      have f1 : Fr VM1 M (mu M 69 21 ((x : Int) + 1)) := Fr.rf.put ⟨rfl, by omega, by omega⟩
      have hb : blk (ltA f z (x : Int)) = true := decide_eq_true (by omega)
      have e : skp blk f z (m + 1) x = skp blk f z m (x + 1) := if_pos hb
      rw [e] at k
      have hlt := ltA_lt (P := blk) (by decide) hb
      exact ih (x + 1) _ Q (by omega) (by omega) (hP.fr (f1.mono VM1.r)) rfl (fun M2 b1 b2 => k M2 (f1.tr b1) b2)
    · refine wp_aload_n dX8_next_13 rfl rfl ?_
      refine wp_aload_n dX8_next_14 rfl rfl ?_
      refine wp_get 69 rfl fl_RX8_155 rfl ⟨by omega, by omega⟩ dX8_next_15 rfl (v := (x : Int)) (hx) ?_
      refine wp_callV0 (d' := d - 1) cv_RX8_158 69 rfl [(0, (x : Int))] [] rfl rfl (Or.inl ⟨_, _, rfl, by decide, rfl, by omega, by omega⟩) (by omega) (Nat.le_of_ble_eq_true rfl) dX8_next_18 rfl (Nat.le_of_ble_eq_true rfl) (by omega) (loc1 := [(2, 69), (0, (x : Int))]) rfl ?_
      refine sp_byteAt hn hP x (by omega) ?_
      refine wp_bipush dX8_next_21 (by decide) (by decide) ?_
      refine wp_icmp_ne (tgt := 39) dX8_next_23 (by decide) (fun h23 => ?_) (fun h23 => ?_)
      · have e : skp blk f z (m + 1) x = x := if_neg (by rw [show blk (ltA f z (x : Int)) = false from decide_eq_false (by omega)]; decide)
        rw [e] at k
        exact k M Fr.rf hx
      · refine wp_aload_n dX8_next_26 rfl rfl ?_
        refine wp_dup dX8_next_27 (Or.inr rfl) ?_
        refine wp_get 69 rfl fl_RX8_155 rfl ⟨by omega, by omega⟩ dX8_next_28 rfl (v := (x : Int)) (hx) ?_
        refine wp_iconst dX8_next_31 (by decide) ?_
        refine wp_iadd dX8_next_32 (by omega) ?_
        refine wp_puti 69 rfl fl_RX8_155 rfl ⟨by omega, by omega⟩ dX8_next_33 rfl rfl ?_
        refine wp_goto (tgt := 0) dX8_next_36 (by decide) ?_
        have f1 : Fr VM1 M (mu M 69 21 ((x : Int) + 1)) := Fr.rf.put ⟨rfl, by omega, by omega⟩
        have hb : blk (ltA f z (x : Int)) = true := decide_eq_true (by omega)
        have e : skp blk f z (m + 1) x = skp blk f z m (x + 1) := if_pos hb
        rw [e] at k
        have hlt := ltA_lt (P := blk) (by decide) hb
        exact ih (x + 1) _ Q (by omega) (by omega) (hP.fr (f1.mono VM1.r)) rfl (fun M2 b1 b2 => k M2 (f1.tr b1) b2)
def VM21 (i j : Nat) : Prop := i = 69 ∧ j = 21
theorem VM21.q : ∀ i j, VM21 i j → VM1 i j := by
  intro i j h
  unfold VM21 at h
  unfold VM1
  omega
set_option maxRecDepth 20000 in
set_option maxHeartbeats 4000000 in
theorem lm_ltr  {l : Launch} {g : Gw} {d n : Nat} (hn : 90 ≤ n) (hd : 2 ≤ d) {t : Nat} {f : Nat → Int} {z : Int} {u u2 : Wd} : ∀ (m x : Nat) (M : Mm) (Q : Option Wd → Mm → Prop), z ≤ (x : Int) + m → (x : Int) ≤ z → TPm M t f z → M 69 21 = (x : Int) → (∀ M', Fr VM21 M M' → M' 69 21 = (skp ltr f z m x : Int) → Q none M') → Wp l g d 0 0 n m_X8_next 100 [] [(2, 69), u, u2] M Q := by
  intro m
  induction m with
  | zero =>
    intro x M Q hm hxz hP hx k
    obtain ⟨hR, h19, ht6, h20, hz0, hz1, h70⟩ := id hP
    refine wp_aload_n dX8_next_100 rfl rfl ?_
    refine wp_aload_n dX8_next_101 rfl rfl ?_
    refine wp_get 69 rfl fl_RX8_155 rfl ⟨by omega, by omega⟩ dX8_next_102 rfl (v := (x : Int)) (hx) ?_
    refine wp_callV0 (d' := d - 1) cv_RX8_158 69 rfl [(0, (x : Int))] [] rfl rfl (Or.inl ⟨_, _, rfl, by decide, rfl, by omega, by omega⟩) (by omega) (Nat.le_of_ble_eq_true rfl) dX8_next_105 rfl (Nat.le_of_ble_eq_true rfl) (by omega) (loc1 := [(2, 69), (0, (x : Int))]) rfl ?_
    refine sp_byteAt hn hP x (by omega) ?_
    refine wp_i2l dX8_next_108 ?_
    refine wp_ldc2 (x := 97) dX8_next_109 kl_RX8_167 (by decide) (wr_l (by omega)) ?_
    refine wp_ldc2 (x := 122) dX8_next_112 kl_RX8_169 (by decide) (wr_l (by omega)) ?_
    refine wp_callS0 (d' := d - 1) cs_RX8_91 [(1, (ltA f z (x : Int))), (1, 97), (1, 122)] [] rfl rfl (Nat.le_of_ble_eq_true rfl) dX8_next_115 rfl (Nat.le_of_ble_eq_true rfl) (by omega) (loc1 := [(1, (ltA f z (x : Int))), (9, 0), (1, 97), (9, 0), (1, 122), (9, 0)]) rfl ?_
    refine sp_in (ltA f z (x : Int)) 97 122 (fun hc => absurd hc (by rw [show ltA f z (x : Int) = -1 from if_neg (by omega)]; decide)) (fun hc => ?_)
    refine wp_if_eq (tgt := 321) dX8_next_118 (by decide) (fun _ => ?_) (fun h => absurd h (by decide))
    refine wp_vret rfl dX8_next_321 ?_
    exact k M Fr.rf hx
  | succ m ih =>
    intro x M Q hm hxz hP hx k
    obtain ⟨hR, h19, ht6, h20, hz0, hz1, h70⟩ := id hP
    refine wp_aload_n dX8_next_100 rfl rfl ?_
    refine wp_aload_n dX8_next_101 rfl rfl ?_
    refine wp_get 69 rfl fl_RX8_155 rfl ⟨by omega, by omega⟩ dX8_next_102 rfl (v := (x : Int)) (hx) ?_
    refine wp_callV0 (d' := d - 1) cv_RX8_158 69 rfl [(0, (x : Int))] [] rfl rfl (Or.inl ⟨_, _, rfl, by decide, rfl, by omega, by omega⟩) (by omega) (Nat.le_of_ble_eq_true rfl) dX8_next_105 rfl (Nat.le_of_ble_eq_true rfl) (by omega) (loc1 := [(2, 69), (0, (x : Int))]) rfl ?_
    refine sp_byteAt hn hP x (by omega) ?_
    refine wp_i2l dX8_next_108 ?_
    refine wp_ldc2 (x := 97) dX8_next_109 kl_RX8_167 (by decide) (wr_l (by omega)) ?_
    refine wp_ldc2 (x := 122) dX8_next_112 kl_RX8_169 (by decide) (wr_l (by omega)) ?_
    refine wp_callS0 (d' := d - 1) cs_RX8_91 [(1, (ltA f z (x : Int))), (1, 97), (1, 122)] [] rfl rfl (Nat.le_of_ble_eq_true rfl) dX8_next_115 rfl (Nat.le_of_ble_eq_true rfl) (by omega) (loc1 := [(1, (ltA f z (x : Int))), (9, 0), (1, 97), (9, 0), (1, 122), (9, 0)]) rfl ?_
    refine sp_in (ltA f z (x : Int)) 97 122 (fun hc => ?_) (fun hc => ?_)
    · refine wp_if_eq (tgt := 321) dX8_next_118 (by decide) (fun h => absurd h (by decide)) (fun _ => ?_)
      refine wp_aload_n dX8_next_121 rfl rfl ?_
      refine wp_dup dX8_next_122 (Or.inr rfl) ?_
      refine wp_get 69 rfl fl_RX8_155 rfl ⟨by omega, by omega⟩ dX8_next_123 rfl (v := (x : Int)) (hx) ?_
      refine wp_iconst dX8_next_126 (by decide) ?_
      refine wp_iadd dX8_next_127 (by omega) ?_
      refine wp_puti 69 rfl fl_RX8_155 rfl ⟨by omega, by omega⟩ dX8_next_128 rfl rfl ?_
      refine wp_goto (tgt := 100) dX8_next_131 (by decide) ?_
      have f1 : Fr VM21 M (mu M 69 21 ((x : Int) + 1)) := Fr.rf.put ⟨rfl, rfl⟩
      have hb : ltr (ltA f z (x : Int)) = true := decide_eq_true (by omega)
      have e : skp ltr f z (m + 1) x = skp ltr f z m (x + 1) := if_pos hb
      rw [e] at k
      have hlt := ltA_lt (P := ltr) (by decide) hb
      exact ih (x + 1) _ Q (by omega) (by omega) (hP.fr ((f1.mono VM21.q).mono VM1.r)) rfl (fun M2 b1 b2 => k M2 (f1.tr b1) b2)
    · refine wp_if_eq (tgt := 321) dX8_next_118 (by decide) (fun _ => ?_) (fun h => absurd h (by decide))
      refine wp_vret rfl dX8_next_321 ?_
      have e : skp ltr f z (m + 1) x = x := if_neg (by rw [show ltr (ltA f z (x : Int)) = false from decide_eq_false (by omega)]; decide)
      rw [e] at k
      exact k M Fr.rf hx
def VM24 (i j : Nat) : Prop := i = 69 ∧ (j = 21 ∨ j = 24)
theorem VM24.q : ∀ i j, VM24 i j → VM1 i j := by
  intro i j h
  unfold VM24 at h
  unfold VM1
  omega
/-- the number so far, in the class and in the model -/
def dgI (k : Nat) (v vc : Int) : Prop := 0 ≤ v ∧ v < 10000 ∧ (k ≤ 4 → v = vc ∧ v < 10 ^ k)
theorem dgI.nx {k : Nat} {v vc c : Int} (h : dgI k v vc) (hk : k < 4) (hc : 48 ≤ c ∧ c ≤ 57) : wrapl (wrapl (wrapl (10 * v) + c) - 48) = 10 * v + c - 48 ∧ dgI (k + 1) (10 * v + c - 48) (wrap (wrap (wrap (vc * 10) + c) - 48)) := by
  obtain ⟨h1, h2, h3⟩ := h
  obtain ⟨h4, h5⟩ := h3 (by omega)
  subst h4
  have e : (10 : Int) ^ (k + 1) = 10 ^ k * 10 := Int.pow_succ 10 k
  have h6 : (10 : Int) ^ k ≤ 1000 := by
    match k, hk with
    | 0, _ => decide
    | 1, _ => decide
    | 2, _ => decide
    | 3, _ => decide
  refine ⟨?_, by omega, by omega, fun _ => ⟨?_, by omega⟩⟩
  · rw [wrapl_id (x := 10 * v) (by omega), wrapl_id (x := 10 * v + c) (by omega), wrapl_id (by omega)]
  · rw [wrap_id (x := v * 10) (by omega), wrap_id (x := v * 10 + c) (by omega), wrap_id (by omega)]
    omega
theorem dgI.st {k : Nat} {v vc vd : Int} (h : dgI k v vc) (hk : 4 ≤ k) : dgI (k + 1) v vd := ⟨h.1, h.2.1, fun q => absurd q (by omega)⟩
set_option maxRecDepth 20000 in
set_option maxHeartbeats 4000000 in
theorem lm_num  {l : Launch} {g : Gw} {d n : Nat} (hn : 90 ≤ n) (hd : 2 ≤ d) {t : Nat} {f : Nat → Int} {z : Int} {ub : Int} : ∀ (m x kk : Nat) (v vc : Int) (M : Mm) (Q : Option Wd → Mm → Prop), z ≤ (x : Int) + m → (x : Int) ≤ z → kk ≤ x → TPm M t f z → M 69 21 = (x : Int) → M 69 24 = v → dgI kk v vc → (∀ M' w, Fr VM24 M M' → M' 69 21 = ((nmr f z m x vc).1 : Int) → M' 69 24 = w → dgI (kk + ((nmr f z m x vc).1 - x)) w (nmr f z m x vc).2 → Wp l g d 0 0 n m_X8_next 235 [] [(2, 69), (0, ub), (0, ((kk + ((nmr f z m x vc).1 - x) : Nat) : Int))] M' Q) → Wp l g d 0 0 n m_X8_next 160 [] [(2, 69), (0, ub), (0, (kk : Int))] M Q := by
  intro m
  induction m with
  | zero =>
    intro x kk v vc M Q hm hxz hkx hP hx hv hI k
    obtain ⟨hR, h19, ht6, h20, hz0, hz1, h70⟩ := id hP
    have hI1 := hI.1
    have hI2 := hI.2.1
    refine wp_aload_n dX8_next_160 rfl rfl ?_
    refine wp_aload_n dX8_next_161 rfl rfl ?_
    refine wp_get 69 rfl fl_RX8_155 rfl ⟨by omega, by omega⟩ dX8_next_162 rfl (v := (x : Int)) (hx) ?_
    refine wp_callV0 (d' := d - 1) cv_RX8_158 69 rfl [(0, (x : Int))] [] rfl rfl (Or.inl ⟨_, _, rfl, by decide, rfl, by omega, by omega⟩) (by omega) (Nat.le_of_ble_eq_true rfl) dX8_next_165 rfl (Nat.le_of_ble_eq_true rfl) (by omega) (loc1 := [(2, 69), (0, (x : Int))]) rfl ?_
    refine sp_byteAt hn hP x (by omega) ?_
    refine wp_i2l dX8_next_168 ?_
    refine wp_ldc2 (x := 48) dX8_next_169 kl_RX8_171 (by decide) (wr_l (by omega)) ?_
    refine wp_ldc2 (x := 57) dX8_next_172 kl_RX8_173 (by decide) (wr_l (by omega)) ?_
    refine wp_callS0 (d' := d - 1) cs_RX8_91 [(1, (ltA f z (x : Int))), (1, 48), (1, 57)] [] rfl rfl (Nat.le_of_ble_eq_true rfl) dX8_next_175 rfl (Nat.le_of_ble_eq_true rfl) (by omega) (loc1 := [(1, (ltA f z (x : Int))), (9, 0), (1, 48), (9, 0), (1, 57), (9, 0)]) rfl ?_
    refine sp_in (ltA f z (x : Int)) 48 57 (fun hc => absurd hc (by rw [show ltA f z (x : Int) = -1 from if_neg (by omega)]; decide)) (fun hc => ?_)
    refine wp_if_eq (tgt := 235) dX8_next_178 (by decide) (fun _ => ?_) (fun h => absurd h (by decide))
    have e0 : kk + ((nmr f z 0 x vc).1 - x) = kk := by show kk + (x - x) = kk; omega
    rw [e0] at k
    exact k M v Fr.rf hx hv hI
  | succ m ih =>
    intro x kk v vc M Q hm hxz hkx hP hx hv hI k
    obtain ⟨hR, h19, ht6, h20, hz0, hz1, h70⟩ := id hP
    have hI1 := hI.1
    have hI2 := hI.2.1
    refine wp_aload_n dX8_next_160 rfl rfl ?_
    refine wp_aload_n dX8_next_161 rfl rfl ?_
    refine wp_get 69 rfl fl_RX8_155 rfl ⟨by omega, by omega⟩ dX8_next_162 rfl (v := (x : Int)) (hx) ?_
    refine wp_callV0 (d' := d - 1) cv_RX8_158 69 rfl [(0, (x : Int))] [] rfl rfl (Or.inl ⟨_, _, rfl, by decide, rfl, by omega, by omega⟩) (by omega) (Nat.le_of_ble_eq_true rfl) dX8_next_165 rfl (Nat.le_of_ble_eq_true rfl) (by omega) (loc1 := [(2, 69), (0, (x : Int))]) rfl ?_
    refine sp_byteAt hn hP x (by omega) ?_
    refine wp_i2l dX8_next_168 ?_
    refine wp_ldc2 (x := 48) dX8_next_169 kl_RX8_171 (by decide) (wr_l (by omega)) ?_
    refine wp_ldc2 (x := 57) dX8_next_172 kl_RX8_173 (by decide) (wr_l (by omega)) ?_
    refine wp_callS0 (d' := d - 1) cs_RX8_91 [(1, (ltA f z (x : Int))), (1, 48), (1, 57)] [] rfl rfl (Nat.le_of_ble_eq_true rfl) dX8_next_175 rfl (Nat.le_of_ble_eq_true rfl) (by omega) (loc1 := [(1, (ltA f z (x : Int))), (9, 0), (1, 48), (9, 0), (1, 57), (9, 0)]) rfl ?_
    refine sp_in (ltA f z (x : Int)) 48 57 (fun hc => ?_) (fun hc => ?_)
    · refine wp_if_eq (tgt := 235) dX8_next_178 (by decide) (fun h => absurd h (by decide)) (fun _ => ?_)
      refine wp_aload_n dX8_next_181 rfl rfl ?_
      refine wp_iload_n dX8_next_182 rfl rfl ?_
      refine wp_iconst dX8_next_183 (by decide) ?_
      refine wp_icmp_ge (tgt := 212) dX8_next_184 (by decide) (fun h184 => ?_) (fun h184 => ?_)
      · refine wp_aload_n dX8_next_212 rfl rfl ?_
        refine wp_get 69 rfl fl_RX8_175 rfl ⟨by omega, by omega⟩ dX8_next_213 rfl (v := v) (hv) ?_
        refine wp_putl 69 rfl fl_RX8_175 rfl ⟨by omega, by omega⟩ dX8_next_216 rfl rfl (by first | omega | (rw [(hI.nx (by omega) hc).1]; have := (hI.nx (by omega) hc).2; exact ⟨by have := this.1; omega, by have := this.2.1; omega⟩)) ?_
        refine wp_iinc (loc' := [(2, 69), (0, ub), (0, ((kk : Int) + 1))]) dX8_next_219 rfl (by omega) rfl ?_
        refine wp_aload_n dX8_next_222 rfl rfl ?_
        refine wp_dup dX8_next_223 (Or.inr rfl) ?_
        refine wp_get 69 rfl fl_RX8_155 rfl ⟨by omega, by omega⟩ dX8_next_224 rfl (v := (x : Int)) (hx) ?_
        refine wp_iconst dX8_next_227 (by decide) ?_
        refine wp_iadd dX8_next_228 (by omega) ?_
        refine wp_puti 69 rfl fl_RX8_155 rfl ⟨by omega, by omega⟩ dX8_next_229 rfl rfl ?_
        refine wp_goto (tgt := 160) dX8_next_232 (by decide) ?_
        have f1 : Fr VM24 M (mu (mu M 69 24 v) 69 21 ((x : Int) + 1)) := (Fr.rf.put ⟨rfl, Or.inr rfl⟩).put ⟨rfl, Or.inl rfl⟩
        have hb : dgt (ltA f z (x : Int)) = true := decide_eq_true (by omega)
        have e : nmr f z (m + 1) x vc = nmr f z m (x + 1) (wrap (wrap (wrap (vc * 10) + ltA f z (x : Int)) - 48)) := if_pos hb
        rw [e] at k
        have hlt := ltA_lt (P := dgt) (by decide) hb
        have hle := nmr_le (f := f) m (x + 1) (wrap (wrap (wrap (vc * 10) + ltA f z (x : Int)) - 48)) (z := z) (by omega)
        rw [show kk + ((nmr f z m (x + 1) (wrap (wrap (wrap (vc * 10) + ltA f z (x : Int)) - 48))).1 - x) = kk + 1 + ((nmr f z m (x + 1) (wrap (wrap (wrap (vc * 10) + ltA f z (x : Int)) - 48))).1 - (x + 1)) by omega] at k
        exact ih (x + 1) (kk + 1) v _ _ Q (by omega) (by omega) (by omega) (hP.fr ((f1.mono VM24.q).mono VM1.r)) rfl rfl (hI.st (by omega)) (fun M2 w b1 b2 b3 b4 => k M2 w (f1.tr b1) b2 b3 b4)
      · refine wp_ldc2 (x := 10) dX8_next_187 kl_RX8_179 (by decide) (wr_l (by omega)) ?_
        refine wp_aload_n dX8_next_190 rfl rfl ?_
        refine wp_get 69 rfl fl_RX8_175 rfl ⟨by omega, by omega⟩ dX8_next_191 rfl (v := v) (hv) ?_
        refine wp_lmul dX8_next_194 ?_
        refine wp_aload_n dX8_next_195 rfl rfl ?_
        refine wp_aload_n dX8_next_196 rfl rfl ?_
        refine wp_get 69 rfl fl_RX8_155 rfl ⟨by omega, by omega⟩ dX8_next_197 rfl (v := (x : Int)) (hx) ?_
        refine wp_callV0 (d' := d - 1) cv_RX8_158 69 rfl [(0, (x : Int))] [(1, (wrapl (10 * v))), (2, 69)] rfl rfl (Or.inl ⟨_, _, rfl, by decide, rfl, by omega, by omega⟩) (by omega) (Nat.le_of_ble_eq_true rfl) dX8_next_200 rfl (Nat.le_of_ble_eq_true rfl) (by omega) (loc1 := [(2, 69), (0, (x : Int))]) rfl ?_
        refine sp_byteAt hn hP x (by omega) ?_
        refine wp_i2l dX8_next_203 ?_
        refine wp_ladd dX8_next_204 ?_
        refine wp_ldc2 (x := 48) dX8_next_205 kl_RX8_171 (by decide) (wr_l (by omega)) ?_
        refine wp_lsub dX8_next_208 ?_
        refine wp_goto (tgt := 216) dX8_next_209 (by decide) ?_
        refine wp_putl 69 rfl fl_RX8_175 rfl ⟨by omega, by omega⟩ dX8_next_216 rfl rfl (by first | omega | (rw [(hI.nx (by omega) hc).1]; have := (hI.nx (by omega) hc).2; exact ⟨by have := this.1; omega, by have := this.2.1; omega⟩)) ?_
        refine wp_iinc (loc' := [(2, 69), (0, ub), (0, ((kk : Int) + 1))]) dX8_next_219 rfl (by omega) rfl ?_
        refine wp_aload_n dX8_next_222 rfl rfl ?_
        refine wp_dup dX8_next_223 (Or.inr rfl) ?_
        refine wp_get 69 rfl fl_RX8_155 rfl ⟨by omega, by omega⟩ dX8_next_224 rfl (v := (x : Int)) (hx) ?_
        refine wp_iconst dX8_next_227 (by decide) ?_
        refine wp_iadd dX8_next_228 (by omega) ?_
        refine wp_puti 69 rfl fl_RX8_155 rfl ⟨by omega, by omega⟩ dX8_next_229 rfl rfl ?_
        refine wp_goto (tgt := 160) dX8_next_232 (by decide) ?_
        have f1 : Fr VM24 M (mu (mu M 69 24 (wrapl ((wrapl ((wrapl (10 * v)) + (ltA f z (x : Int)))) - 48))) 69 21 ((x : Int) + 1)) := (Fr.rf.put ⟨rfl, Or.inr rfl⟩).put ⟨rfl, Or.inl rfl⟩
        have hb : dgt (ltA f z (x : Int)) = true := decide_eq_true (by omega)
        have e : nmr f z (m + 1) x vc = nmr f z m (x + 1) (wrap (wrap (wrap (vc * 10) + ltA f z (x : Int)) - 48)) := if_pos hb
        rw [e] at k
        have hlt := ltA_lt (P := dgt) (by decide) hb
        have hle := nmr_le (f := f) m (x + 1) (wrap (wrap (wrap (vc * 10) + ltA f z (x : Int)) - 48)) (z := z) (by omega)
        rw [show kk + ((nmr f z m (x + 1) (wrap (wrap (wrap (vc * 10) + ltA f z (x : Int)) - 48))).1 - x) = kk + 1 + ((nmr f z m (x + 1) (wrap (wrap (wrap (vc * 10) + ltA f z (x : Int)) - 48))).1 - (x + 1)) by omega] at k
        exact ih (x + 1) (kk + 1) _ _ _ Q (by omega) (by omega) (by omega) (hP.fr ((f1.mono VM24.q).mono VM1.r)) rfl (show wrapl (wrapl (wrapl (10 * v) + ltA f z (x : Int)) - 48) = _ from (hI.nx (by omega) hc).1) (hI.nx (by omega) hc).2 (fun M2 w b1 b2 b3 b4 => k M2 w (f1.tr b1) b2 b3 b4)
    · refine wp_if_eq (tgt := 235) dX8_next_178 (by decide) (fun _ => ?_) (fun h => absurd h (by decide))
      have e : nmr f z (m + 1) x vc = (x, vc) := if_neg (by rw [show dgt (ltA f z (x : Int)) = false from decide_eq_false (by omega)]; decide)
      rw [e] at k
      have e0 : kk + ((x, vc).1 - x) = kk := by show kk + (x - x) = kk; omega
      rw [e0] at k
      exact k M v Fr.rf hx hv hI
