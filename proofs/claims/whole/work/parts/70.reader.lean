/-! ===== the class's reader: letters ===== -/
def ltA (f : Nat → Int) (z x : Int) : Int := if 0 ≤ x ∧ x < z then f x.toNat else -1
def blk (c : Int) : Bool := decide (c = 32 ∨ c = 10)
def ltr (c : Int) : Bool := decide (97 ≤ c ∧ c ≤ 122)
def dgt (c : Int) : Bool := decide (48 ≤ c ∧ c ≤ 57)
def skp (P : Int → Bool) (f : Nat → Int) (z : Int) : Nat → Nat → Nat
  | 0, x => x
  | m + 1, x => if P (ltA f z (x : Int)) = true then skp P f z m (x + 1) else x
theorem ltA_lt {P : Int → Bool} (hP : P (-1) = false) {f : Nat → Int} {z x : Int} (h : P (ltA f z x) = true) : 0 ≤ x ∧ x < z := by
  by_cases c : 0 ≤ x ∧ x < z
  · exact c
  · rw [show ltA f z x = -1 from if_neg c, hP] at h
    cases h
theorem skp_le {P : Int → Bool} (hP : P (-1) = false) {f : Nat → Int} {z : Int} : ∀ m x : Nat, (x : Int) ≤ z → (skp P f z m x : Int) ≤ z ∧ x ≤ skp P f z m x
  | 0, x, h => ⟨h, Nat.le_refl x⟩
  | m + 1, x, h => by
    unfold skp
    split
    · rename_i hp
      have c := ltA_lt hP hp
      have := skp_le hP (f := f) (z := z) m (x + 1) (by omega)
      omega
    · exact ⟨h, Nat.le_refl x⟩
/-- the tape -/
def TP (M : Mm) (f : Nat → Int) (z : Int) : Prop := SRr M ∧ M 24 = f ∧ M 23 1 = z ∧ 0 ≤ z ∧ z ≤ 160
def VR (i j : Nat) : Prop := i = 23 ∧ 3 ≤ j
theorem VR.sr {M M' : Mm} (h : Fr VR M M') (hR : SRr M) : SRr M' := hR.frL h (by unfold VR; decide +kernel)
theorem TP.fr {M M' : Mm} {f : Nat → Int} {z : Int} (h : TP M f z) (g : Fr VR M M') : TP M' f z := by
  obtain ⟨h1, h2, h3, h4, h5⟩ := h
  exact ⟨VR.sr g h1, (funext fun j => g 24 j (by unfold VR; omega)).trans h2, (g 23 1 (by unfold VR; omega)).trans h3, h4, h5⟩
def VR4 (i j : Nat) : Prop := i = 23 ∧ j = 4
theorem VR4.r : ∀ i j, VR4 i j → VR i j := by
  intro i j h
  unfold VR4 at h
  unfold VR
  omega
set_option maxRecDepth 20000 in
set_option maxHeartbeats 4000000 in
theorem sp_letterAt {l : Launch} {g : Gw} {d n : Nat} {M : Mm} {Q : Option Wd → Mm → Prop} (hn : 60 ≤ n) {f : Nat → Int} {z : Int} (hP : TP M f z) (x : Int) (k : Q (some (0, ltA f z x)) M) : Wp l g d 0 0 n m_X2_letterAt 0 [] [(2, 23), (0, x)] M Q := by
  obtain ⟨hR, hf, hz, hz0, hz1⟩ := id hP
  refine wp_iload_n dX2_letterAt_0 rfl rfl ?_
  refine wp_if_lt (tgt := 28) dX2_letterAt_1 (by decide) (fun h1 => ?_) (fun h1 => ?_)
  · refine wp_iconst dX2_letterAt_28 (by decide) ?_
    refine wp_iret rfl dX2_letterAt_29 ?_
    rw [show (-1 : Int) = ltA f z x from (if_neg (by omega)).symm]
    exact k
  · refine wp_iload_n dX2_letterAt_4 rfl rfl ?_
    refine wp_aload_n dX2_letterAt_5 rfl rfl ?_
    refine wp_get 23 rfl fl_RX2_15 rfl ⟨by omega, by omega⟩ dX2_letterAt_6 rfl (v := (M 23 1)) (rfl) ?_
    refine wp_icmp_ge (tgt := 28) dX2_letterAt_9 (by decide) (fun h9 => ?_) (fun h9 => ?_)
    · refine wp_iconst dX2_letterAt_28 (by decide) ?_
      refine wp_iret rfl dX2_letterAt_29 ?_
      rw [show (-1 : Int) = ltA f z x from (if_neg (by omega)).symm]
      exact k
    · refine wp_iload_n dX2_letterAt_12 rfl rfl ?_
      refine wp_sipush dX2_letterAt_13 (by decide) (by decide) ?_
      refine wp_icmp_ge (tgt := 28) dX2_letterAt_16 (by decide) (fun h16 => ?_) (fun h16 => ?_)
      · refine wp_iconst dX2_letterAt_28 (by decide) ?_
        refine wp_iret rfl dX2_letterAt_29 ?_
        rw [show (-1 : Int) = ltA f z x from (if_neg (by omega)).symm]
        exact k
      · refine wp_aload_n dX2_letterAt_19 rfl rfl ?_
        refine wp_get 23 rfl fl_RX2_11 rfl ⟨by omega, by omega⟩ dX2_letterAt_20 rfl (v := 24) (qr_23_0 (M := M) hR) ?_
        refine wp_iload_n dX2_letterAt_23 rfl rfl ?_
        refine wp_iald 24 rfl rfl ⟨by omega, by omega⟩ ⟨by omega, by omega⟩ dX2_letterAt_24 (v := (M 24 (x).toNat)) (rfl) ?_
        refine wp_goto (tgt := 29) dX2_letterAt_25 (by decide) ?_
        refine wp_iret rfl dX2_letterAt_29 ?_
        rw [show M 24 x.toNat = ltA f z x by rw [hf]; exact (if_pos (by omega)).symm]
        exact k
set_option maxRecDepth 20000 in
set_option maxHeartbeats 4000000 in
theorem sp_isBlank {l : Launch} {g : Gw} {d n : Nat} {M : Mm} {Q : Option Wd → Mm → Prop} (c : Int) (kt : blk c = true → Q (some (0, 1)) M) (kf : blk c = false → Q (some (0, 0)) M) : Wp l g d 0 0 n m_X2_isBlank 0 [] [(0, c)] M Q := by
  refine wp_iload_n dX2_isBlank_0 rfl rfl ?_
  refine wp_bipush dX2_isBlank_1 (by decide) (by decide) ?_
  refine wp_icmp_eq (tgt := 12) dX2_isBlank_3 (by decide) (fun h3 => ?_) (fun h3 => ?_)
  · refine wp_iconst dX2_isBlank_12 (by decide) ?_
    refine wp_goto (tgt := 17) dX2_isBlank_13 (by decide) ?_
    refine wp_zret rfl (by omega) dX2_isBlank_17 ?_
    exact kt (decide_eq_true (by omega))
  · refine wp_iload_n dX2_isBlank_6 rfl rfl ?_
    refine wp_bipush dX2_isBlank_7 (by decide) (by decide) ?_
    refine wp_icmp_ne (tgt := 16) dX2_isBlank_9 (by decide) (fun h9 => ?_) (fun h9 => ?_)
    · refine wp_iconst dX2_isBlank_16 (by decide) ?_
      refine wp_zret rfl (by omega) dX2_isBlank_17 ?_
      exact kf (decide_eq_false (by omega))
    · refine wp_iconst dX2_isBlank_12 (by decide) ?_
      refine wp_goto (tgt := 17) dX2_isBlank_13 (by decide) ?_
      refine wp_zret rfl (by omega) dX2_isBlank_17 ?_
      exact kt (decide_eq_true (by omega))
set_option maxRecDepth 20000 in
set_option maxHeartbeats 4000000 in
theorem sp_isLetter {l : Launch} {g : Gw} {d n : Nat} {M : Mm} {Q : Option Wd → Mm → Prop} (c : Int) (kt : ltr c = true → Q (some (0, 1)) M) (kf : ltr c = false → Q (some (0, 0)) M) : Wp l g d 0 0 n m_X2_isLetter 0 [] [(0, c)] M Q := by
  refine wp_iload_n dX2_isLetter_0 rfl rfl ?_
  refine wp_bipush dX2_isLetter_1 (by decide) (by decide) ?_
  refine wp_icmp_lt (tgt := 16) dX2_isLetter_3 (by decide) (fun h3 => ?_) (fun h3 => ?_)
  · refine wp_iconst dX2_isLetter_16 (by decide) ?_
    refine wp_zret rfl (by omega) dX2_isLetter_17 ?_
    exact kf (decide_eq_false (by omega))
  · refine wp_iload_n dX2_isLetter_6 rfl rfl ?_
    refine wp_bipush dX2_isLetter_7 (by decide) (by decide) ?_
    refine wp_icmp_gt (tgt := 16) dX2_isLetter_9 (by decide) (fun h9 => ?_) (fun h9 => ?_)
    · refine wp_iconst dX2_isLetter_16 (by decide) ?_
      refine wp_zret rfl (by omega) dX2_isLetter_17 ?_
      exact kf (decide_eq_false (by omega))
    · refine wp_iconst dX2_isLetter_12 (by decide) ?_
      refine wp_goto (tgt := 17) dX2_isLetter_13 (by decide) ?_
      refine wp_zret rfl (by omega) dX2_isLetter_17 ?_
      exact kt (decide_eq_true (by omega))
set_option maxRecDepth 20000 in
set_option maxHeartbeats 4000000 in
theorem sp_isDigit {l : Launch} {g : Gw} {d n : Nat} {M : Mm} {Q : Option Wd → Mm → Prop} (c : Int) (kt : dgt c = true → Q (some (0, 1)) M) (kf : dgt c = false → Q (some (0, 0)) M) : Wp l g d 0 0 n m_X2_isDigit 0 [] [(0, c)] M Q := by
  refine wp_iload_n dX2_isDigit_0 rfl rfl ?_
  refine wp_bipush dX2_isDigit_1 (by decide) (by decide) ?_
  refine wp_icmp_lt (tgt := 16) dX2_isDigit_3 (by decide) (fun h3 => ?_) (fun h3 => ?_)
  · refine wp_iconst dX2_isDigit_16 (by decide) ?_
    refine wp_zret rfl (by omega) dX2_isDigit_17 ?_
    exact kf (decide_eq_false (by omega))
  · refine wp_iload_n dX2_isDigit_6 rfl rfl ?_
    refine wp_bipush dX2_isDigit_7 (by decide) (by decide) ?_
    refine wp_icmp_gt (tgt := 16) dX2_isDigit_9 (by decide) (fun h9 => ?_) (fun h9 => ?_)
    · refine wp_iconst dX2_isDigit_16 (by decide) ?_
      refine wp_zret rfl (by omega) dX2_isDigit_17 ?_
      exact kf (decide_eq_false (by omega))
    · refine wp_iconst dX2_isDigit_12 (by decide) ?_
      refine wp_goto (tgt := 17) dX2_isDigit_13 (by decide) ?_
      refine wp_zret rfl (by omega) dX2_isDigit_17 ?_
      exact kt (decide_eq_true (by omega))
set_option maxRecDepth 20000 in
set_option maxHeartbeats 4000000 in
theorem lp_blank  {l : Launch} {g : Gw} {d n : Nat} (hn : 60 ≤ n) (hd : 2 ≤ d) {f : Nat → Int} {z : Int} : ∀ (m i x : Nat) (M : Mm) (Q : Option Wd → Mm → Prop), i + m = 160 → (x : Int) ≤ z → TP M f z → M 23 4 = (x : Int) → (∀ M' u, Fr VR4 M M' → M' 23 4 = (skp blk f z m x : Int) → Wp l g d 0 0 n m_X2_step 39 [] [(2, 23), u] M' Q) → Wp l g d 0 0 n m_X2_step 2 [] [(2, 23), (0, (i : Int))] M Q := by
  intro m
  induction m with
  | zero =>
    intro i x M Q hi hxz hP hx k
    obtain ⟨hR, hf, hz, hz0, hz1⟩ := id hP
    refine wp_iload_n dX2_step_2 rfl rfl ?_
    refine wp_sipush dX2_step_3 (by decide) (by decide) ?_
    refine wp_icmp_ge (tgt := 39) dX2_step_6 (by decide) (fun _ => ?_) (fun h => absurd h (by omega))
    exact k M _ Fr.rf hx
  | succ m ih =>
    intro i x M Q hi hxz hP hx k
    obtain ⟨hR, hf, hz, hz0, hz1⟩ := id hP
    refine wp_iload_n dX2_step_2 rfl rfl ?_
    refine wp_sipush dX2_step_3 (by decide) (by decide) ?_
    refine wp_icmp_ge (tgt := 39) dX2_step_6 (by decide) (fun h => absurd h (by omega)) (fun _ => ?_)
    refine wp_aload_n dX2_step_9 rfl rfl ?_
    refine wp_aload_n dX2_step_10 rfl rfl ?_
    refine wp_get 23 rfl fl_RX2_42 rfl ⟨by omega, by omega⟩ dX2_step_11 rfl (v := (x : Int)) (hx) ?_
    refine wp_callV0 (d' := d - 1) cv_RX2_101 23 rfl [(0, (x : Int))] [] rfl rfl (Or.inl ⟨_, _, rfl, by decide, rfl, by omega, by omega⟩) (by omega) (Nat.le_of_ble_eq_true rfl) dX2_step_14 rfl (Nat.le_of_ble_eq_true rfl) (by omega) (loc1 := [(2, 23), (0, (x : Int))]) rfl ?_
    refine sp_letterAt hn hP (x : Int) ?_
    refine wp_callS0 (d' := d - 1) cs_RX2_105 [(0, (ltA f z (x : Int)))] [] rfl rfl (Nat.le_of_ble_eq_true rfl) dX2_step_17 rfl (Nat.le_of_ble_eq_true rfl) (by omega) (loc1 := [(0, (ltA f z (x : Int)))]) rfl ?_
    refine sp_isBlank (ltA f z (x : Int)) (fun hc => ?_) (fun hc => ?_)
    · refine wp_if_eq (tgt := 39) dX2_step_20 (by decide) (fun h => absurd h (by decide)) (fun _ => ?_)
      refine wp_aload_n dX2_step_23 rfl rfl ?_
      refine wp_dup dX2_step_24 (Or.inr rfl) ?_
      refine wp_get 23 rfl fl_RX2_42 rfl ⟨by omega, by omega⟩ dX2_step_25 rfl (v := (x : Int)) (hx) ?_
      refine wp_iconst dX2_step_28 (by decide) ?_
      refine wp_iadd dX2_step_29 (by omega) ?_
      refine wp_puti 23 rfl fl_RX2_42 rfl ⟨by omega, by omega⟩ dX2_step_30 rfl rfl ?_
      refine wp_iinc (loc' := [(2, 23), (0, ((i : Int) + 1))]) dX2_step_33 rfl (by omega) rfl ?_
      refine wp_goto (tgt := 2) dX2_step_36 (by decide) ?_
      have f1 : Fr VR4 M (mu M 23 4 ((x : Int) + 1)) := Fr.rf.put ⟨rfl, rfl⟩
      have e : skp blk f z (m + 1) x = skp blk f z m (x + 1) := if_pos hc
      rw [e] at k
      exact ih (i + 1) (x + 1) _ Q (by omega) (by have hlt := ltA_lt (P := blk) (by decide) hc; omega) (hP.fr (f1.mono VR4.r)) rfl (fun M2 u b1 b2 => k M2 u (f1.tr b1) b2)
    · refine wp_if_eq (tgt := 39) dX2_step_20 (by decide) (fun _ => ?_) (fun h => absurd h (by decide))
      have e : skp blk f z (m + 1) x = x := if_neg (by rw [hc]; decide)
      rw [e] at k
      exact k M _ Fr.rf hx
def nmr (f : Nat → Int) (z : Int) : Nat → Nat → Int → Nat × Int
  | 0, x, v => (x, v)
  | m + 1, x, v => if dgt (ltA f z (x : Int)) = true then nmr f z m (x + 1) (wrap (wrap (wrap (v * 10) + ltA f z (x : Int)) - 48)) else (x, v)
def VR46 (i j : Nat) : Prop := i = 23 ∧ (j = 4 ∨ j = 6)
theorem VR46.r : ∀ i j, VR46 i j → VR i j := by
  intro i j h
  unfold VR46 at h
  unfold VR
  omega
theorem nmr_le {f : Nat → Int} {z : Int} : ∀ (m x : Nat) (v : Int), (x : Int) ≤ z → ((nmr f z m x v).1 : Int) ≤ z ∧ x ≤ (nmr f z m x v).1
  | 0, x, v, h => ⟨h, Nat.le_refl x⟩
  | m + 1, x, v, h => by
    unfold nmr
    split
    · rename_i hp
      have c := ltA_lt (P := dgt) (by decide) hp
      have := nmr_le (f := f) (z := z) m (x + 1) (wrap (wrap (wrap (v * 10) + ltA f z (x : Int)) - 48)) (by omega)
      omega
    · exact ⟨h, Nat.le_refl x⟩
set_option maxRecDepth 20000 in
set_option maxHeartbeats 4000000 in
theorem lp_num  {l : Launch} {g : Gw} {d n : Nat} (hn : 60 ≤ n) (hd : 2 ≤ d) {f : Nat → Int} {z : Int} : ∀ (m i x : Nat) (v : Int) (M : Mm) (Q : Option Wd → Mm → Prop), i + m = 160 → (x : Int) ≤ z → TP M f z → M 23 4 = (x : Int) → M 23 6 = v → (∀ M' u, Fr VR46 M M' → M' 23 4 = ((nmr f z m x v).1 : Int) → M' 23 6 = (nmr f z m x v).2 → Wp l g d 0 0 n m_X2_takeNumeral 67 [] [(2, 23), u] M' Q) → Wp l g d 0 0 n m_X2_takeNumeral 7 [] [(2, 23), (0, (i : Int))] M Q := by
  intro m
  induction m with
  | zero =>
    intro i x v M Q hi hxz hP hx hv k
    obtain ⟨hR, hf, hz, hz0, hz1⟩ := id hP
    refine wp_iload_n dX2_takeNumeral_7 rfl rfl ?_
    refine wp_sipush dX2_takeNumeral_8 (by decide) (by decide) ?_
    refine wp_icmp_ge (tgt := 67) dX2_takeNumeral_11 (by decide) (fun _ => ?_) (fun h => absurd h (by omega))
    exact k M _ Fr.rf hx hv
  | succ m ih =>
    intro i x v M Q hi hxz hP hx hv k
    obtain ⟨hR, hf, hz, hz0, hz1⟩ := id hP
    refine wp_iload_n dX2_takeNumeral_7 rfl rfl ?_
    refine wp_sipush dX2_takeNumeral_8 (by decide) (by decide) ?_
    refine wp_icmp_ge (tgt := 67) dX2_takeNumeral_11 (by decide) (fun h => absurd h (by omega)) (fun _ => ?_)
    refine wp_aload_n dX2_takeNumeral_14 rfl rfl ?_
    refine wp_aload_n dX2_takeNumeral_15 rfl rfl ?_
    refine wp_get 23 rfl fl_RX2_42 rfl ⟨by omega, by omega⟩ dX2_takeNumeral_16 rfl (v := (x : Int)) (hx) ?_
    refine wp_callV0 (d' := d - 1) cv_RX2_101 23 rfl [(0, (x : Int))] [] rfl rfl (Or.inl ⟨_, _, rfl, by decide, rfl, by omega, by omega⟩) (by omega) (Nat.le_of_ble_eq_true rfl) dX2_takeNumeral_19 rfl (Nat.le_of_ble_eq_true rfl) (by omega) (loc1 := [(2, 23), (0, (x : Int))]) rfl ?_
    refine sp_letterAt hn hP (x : Int) ?_
    refine wp_callS0 (d' := d - 1) cs_RX2_114 [(0, (ltA f z (x : Int)))] [] rfl rfl (Nat.le_of_ble_eq_true rfl) dX2_takeNumeral_22 rfl (Nat.le_of_ble_eq_true rfl) (by omega) (loc1 := [(0, (ltA f z (x : Int)))]) rfl ?_
    refine sp_isDigit (ltA f z (x : Int)) (fun hc => ?_) (fun hc => ?_)
    · refine wp_if_eq (tgt := 67) dX2_takeNumeral_25 (by decide) (fun h => absurd h (by decide)) (fun _ => ?_)
      refine wp_aload_n dX2_takeNumeral_28 rfl rfl ?_
      refine wp_aload_n dX2_takeNumeral_29 rfl rfl ?_
      refine wp_get 23 rfl fl_RX2_98 rfl ⟨by omega, by omega⟩ dX2_takeNumeral_30 rfl (v := v) (hv) ?_
      refine wp_bipush dX2_takeNumeral_33 (by decide) (by decide) ?_
      refine wp_imulw dX2_takeNumeral_35 ?_
      refine wp_aload_n dX2_takeNumeral_36 rfl rfl ?_
      refine wp_aload_n dX2_takeNumeral_37 rfl rfl ?_
      refine wp_get 23 rfl fl_RX2_42 rfl ⟨by omega, by omega⟩ dX2_takeNumeral_38 rfl (v := (x : Int)) (hx) ?_
      refine wp_callV0 (d' := d - 1) cv_RX2_101 23 rfl [(0, (x : Int))] [(0, (wrap (v * 10))), (2, 23)] rfl rfl (Or.inl ⟨_, _, rfl, by decide, rfl, by omega, by omega⟩) (by omega) (Nat.le_of_ble_eq_true rfl) dX2_takeNumeral_41 rfl (Nat.le_of_ble_eq_true rfl) (by omega) (loc1 := [(2, 23), (0, (x : Int))]) rfl ?_
      refine sp_letterAt hn hP (x : Int) ?_
      refine wp_iaddw dX2_takeNumeral_44 ?_
      refine wp_bipush dX2_takeNumeral_45 (by decide) (by decide) ?_
      refine wp_isubw dX2_takeNumeral_47 ?_
      refine wp_puti 23 rfl fl_RX2_98 rfl ⟨by omega, by omega⟩ dX2_takeNumeral_48 rfl rfl ?_
      refine wp_aload_n dX2_takeNumeral_51 rfl rfl ?_
      refine wp_dup dX2_takeNumeral_52 (Or.inr rfl) ?_
      refine wp_get 23 rfl fl_RX2_42 rfl ⟨by omega, by omega⟩ dX2_takeNumeral_53 rfl (v := (x : Int)) (hx) ?_
      refine wp_iconst dX2_takeNumeral_56 (by decide) ?_
      refine wp_iadd dX2_takeNumeral_57 (by omega) ?_
      refine wp_puti 23 rfl fl_RX2_42 rfl ⟨by omega, by omega⟩ dX2_takeNumeral_58 rfl rfl ?_
      refine wp_iinc (loc' := [(2, 23), (0, ((i : Int) + 1))]) dX2_takeNumeral_61 rfl (by omega) rfl ?_
      refine wp_goto (tgt := 7) dX2_takeNumeral_64 (by decide) ?_
      have f1 : Fr VR46 M (mu (mu M 23 6 (wrap ((wrap ((wrap (v * 10)) + (ltA f z (x : Int)))) - 48))) 23 4 ((x : Int) + 1)) := (Fr.rf.put ⟨rfl, Or.inr rfl⟩).put ⟨rfl, Or.inl rfl⟩
      have e : nmr f z (m + 1) x v = nmr f z m (x + 1) (wrap (wrap (wrap (v * 10) + ltA f z (x : Int)) - 48)) := if_pos hc
      rw [e] at k
      exact ih (i + 1) (x + 1) _ _ Q (by omega) (by have hlt := ltA_lt (P := dgt) (by decide) hc; omega) (hP.fr (f1.mono VR46.r)) rfl rfl (fun M2 u b1 b2 b3 => k M2 u (f1.tr b1) b2 b3)
    · refine wp_if_eq (tgt := 67) dX2_takeNumeral_25 (by decide) (fun _ => ?_) (fun h => absurd h (by decide))
      have e : nmr f z (m + 1) x v = (x, v) := if_neg (by rw [hc]; decide)
      rw [e] at k
      exact k M _ Fr.rf hx hv
