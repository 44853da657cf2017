/-! ===== the model's part, read, text ===== -/
set_option maxRecDepth 20000 in
set_option maxHeartbeats 4000000 in
theorem sp_part1 {l : Launch} {g : Gw} {n : Nat} (hn : 90 ≤ n) {t : Nat} {f : Nat → Int} {z : Int} {e : Int → Int} {d : Nat} {M0 : Mm} {Q : Option Wd → Mm → Prop} (hd : 60 ≤ d) (hB : BT f z) {x : Nat} (hJ : RJm M0 t f z x 0 e) (hx : (x : Int) ≤ z) {key : Int} (hkey : 256 ≤ key) (hk1 : lxT f z x = key) (k : ∀ M' w, PoM M0 t f z 0 e (prtP f z key x) M' w → Q (some (0, w)) M') : Wp l g d 0 0 n m_X8_part 0 [] [(2, 69), (0, 1), (9, 0)] M0 Q := by
  refine wp_iload_n dX8_part_0 rfl rfl ?_
  refine wp_if_ne (tgt := 8) dX8_part_1 (by decide) (fun _ => ?_) (fun h => absurd h (by decide))
  refine wp_aload_n dX8_part_8 rfl rfl ?_
  refine wp_get 69 rfl fl_RX8_181 rfl ⟨by omega, by omega⟩ dX8_part_9 rfl (v := 0) (hJ.2.2.2.1) ?_
  refine wp_if_ne (tgt := 19) dX8_part_12 (by decide) (fun h => absurd h (by decide)) (fun _ => ?_)
  refine wp_aload_n dX8_part_15 rfl rfl ?_
  refine wp_callV0 (d' := d - 1) cv_RX8_197 69 rfl [] [] rfl rfl (Or.inl ⟨_, _, rfl, by decide, rfl, by omega, by omega⟩) (by omega) (Nat.le_of_ble_eq_true rfl) dX8_part_16 rfl (Nat.le_of_ble_eq_true rfl) (by omega) (loc1 := [(2, 69), (9, 0), (9, 0)]) rfl ?_
  refine sp_next hn (by omega) hB (hJ).1 ((hJ).2.1.2.1 ((hJ).2.1.2.2.ne4 (by omega))) (lxN_le hx).1 (fun M1 f1 l1 => ?_)
  have J1 := (hJ).step f1 l1
  have F1 := ((Fr.rf : Fr VMr M0 M0)).tr (f1.mono VM1.r)
  have X1 := lxN_le (f := f) hx
  have Y1 := lxA_le (f := f) hx
  refine wp_aload_n dX8_part_19 rfl rfl ?_
  refine wp_get 69 rfl fl_RX8_181 rfl ⟨by omega, by omega⟩ dX8_part_20 rfl (v := 0) (J1.2.2.2.1) ?_
  refine wp_if_eq (tgt := 30) dX8_part_23 (by decide) (fun _ => ?_) (fun h => absurd h (by decide))
  refine wp_aload_n dX8_part_30 rfl rfl ?_
  refine wp_callV0 (d' := d - 1) cv_RX8_342 69 rfl [] [] rfl rfl (Or.inl ⟨_, _, rfl, by decide, rfl, by omega, by omega⟩) (by omega) (Nat.le_of_ble_eq_true rfl) dX8_part_31 rfl (Nat.le_of_ble_eq_true rfl) (by omega) (loc1 := [(2, 69), (9, 0), (9, 0)]) rfl ?_
  refine (cm_lv0 hn hB).2.2 _ _ _ _ (by omega) J1 X1.1 (fun M2 w2 q2 => ?_)
  obtain ⟨f2, q2⟩ := q2
  have F2 := (F1).tr f2
  have b2 := (OK3_lv (f := f) (z := z) 5).2.2 _ X1.1
  generalize r2 : (lv f z 5).2.2 (lxN f z x) = u2 at q2 b2
  rcases u2 with p2 | ⟨y2, c2, v2⟩
  · have D2 : DJm M2 t f z p2 0 e := q2
    refine wp_istore_n (loc' := [(2, 69), (0, 1), (0, w2)]) dX8_part_34 rfl (Nat.le_of_ble_eq_true rfl) rfl ?_
    refine wp_aload_n dX8_part_35 rfl rfl ?_
    refine wp_bipush dX8_part_36 (by decide) (by decide) ?_
    refine wp_callV0 (d' := d - 1) cv_RX8_222 69 rfl [(0, 59)] [] rfl rfl (Or.inl ⟨_, _, rfl, by decide, rfl, by omega, by omega⟩) (by omega) (Nat.le_of_ble_eq_true rfl) dX8_part_38 rfl (Nat.le_of_ble_eq_true rfl) (by omega) (loc1 := [(2, 69), (0, 59)]) rfl ?_
    refine sp_isSd hn D2 ?_
    refine wp_if_ne (tgt := 48) dX8_part_41 (by decide) (fun h => absurd h (by decide)) (fun _ => ?_)
    refine wp_aload_n dX8_part_44 rfl rfl ?_
    refine wp_callV0 (d' := d - 1) cv_RX8_194 69 rfl [] [] rfl rfl (Or.inl ⟨_, _, rfl, by decide, rfl, by omega, by omega⟩) (by omega) (Nat.le_of_ble_eq_true rfl) dX8_part_45 rfl (Nat.le_of_ble_eq_true rfl) (by omega) (loc1 := [(2, 69)]) rfl ?_
    refine sp_failmD hn D2 ?_
    refine wp_aload_n dX8_part_48 rfl rfl ?_
    refine wp_get 69 rfl fl_RX8_181 rfl ⟨by omega, by omega⟩ dX8_part_49 rfl (v := 1) (D2.2.2.1) ?_
    refine wp_if_ne (tgt := 59) dX8_part_52 (by decide) (fun _ => ?_) (fun h => absurd h (by decide))
    refine wp_iload_n dX8_part_59 rfl rfl ?_
    refine wp_iret rfl dX8_part_60 ?_
    have ee : prtP f z key x = pbd ((lv f z 5).2.2 (lxN f z x)) (fun y c v => if lxT f z y = 59 then .inr (lxN f z y, c, v) else .inl (lxA f z y)) := if_pos hk1
    rw [ee, r2] at k
    exact k _ _ ⟨F2, D2⟩
  · obtain ⟨J2, e2⟩ : RJm M2 t f z y2 0 e ∧ w2 = v2 e := q2
    obtain ⟨b2, B2, _⟩ : (lxN f z x) + c2.length ≤ y2 ∧ (y2 : Int) ≤ z ∧ _ := b2
    refine wp_istore_n (loc' := [(2, 69), (0, 1), (0, w2)]) dX8_part_34 rfl (Nat.le_of_ble_eq_true rfl) rfl ?_
    refine wp_aload_n dX8_part_35 rfl rfl ?_
    refine wp_bipush dX8_part_36 (by decide) (by decide) ?_
    refine wp_callV0 (d' := d - 1) cv_RX8_222 69 rfl [(0, 59)] [] rfl rfl (Or.inl ⟨_, _, rfl, by decide, rfl, by omega, by omega⟩) (by omega) (Nat.le_of_ble_eq_true rfl) dX8_part_38 rfl (Nat.le_of_ble_eq_true rfl) (by omega) (loc1 := [(2, 69), (0, 59)]) rfl ?_
    refine sp_isSg hn J2 59 (by decide) (fun t5 => ?_) (fun t5 => ?_)
    · have g5 := ((J2).2.1.2.2.sgn (s := 59) (by decide)).mpr t5
      refine wp_if_ne (tgt := 48) dX8_part_41 (by decide) (fun _ => ?_) (fun h => absurd h (by decide))
      refine wp_aload_n dX8_part_48 rfl rfl ?_
      refine wp_get 69 rfl fl_RX8_181 rfl ⟨by omega, by omega⟩ dX8_part_49 rfl (v := 0) (J2.2.2.2.1) ?_
      refine wp_if_ne (tgt := 59) dX8_part_52 (by decide) (fun h => absurd h (by decide)) (fun _ => ?_)
      refine wp_aload_n dX8_part_55 rfl rfl ?_
      refine wp_callV0 (d' := d - 1) cv_RX8_197 69 rfl [] [] rfl rfl (Or.inl ⟨_, _, rfl, by decide, rfl, by omega, by omega⟩) (by omega) (Nat.le_of_ble_eq_true rfl) dX8_part_56 rfl (Nat.le_of_ble_eq_true rfl) (by omega) (loc1 := [(2, 69), (9, 0), (9, 0)]) rfl ?_
      refine sp_next hn (by omega) hB (J2).1 ((J2).2.1.2.1 ((J2).2.1.2.2.ne4 (by omega))) (lxN_le B2).1 (fun M6 f6 l6 => ?_)
      have J6 := (J2).step f6 l6
      have F6 := (F2).tr (f6.mono VM1.r)
      have X6 := lxN_le (f := f) B2
      have Y6 := lxA_le (f := f) B2
      refine wp_iload_n dX8_part_59 rfl rfl ?_
      refine wp_iret rfl dX8_part_60 ?_
      have ee : prtP f z key x = pbd ((lv f z 5).2.2 (lxN f z x)) (fun y c v => if lxT f z y = 59 then .inr (lxN f z y, c, v) else .inl (lxA f z y)) := if_pos hk1
      rw [ee, r2] at k
      replace k : ∀ M' w, PoM M0 t f z 0 e (if lxT f z y2 = 59 then .inr (lxN f z y2, c2, v2) else .inl (lxA f z y2)) M' w → Q (some (0, w)) M' := k
      rw [if_pos t5] at k
      exact k _ _ ⟨F6, J6, e2⟩
    · refine wp_if_ne (tgt := 48) dX8_part_41 (by decide) (fun h => absurd h (by decide)) (fun _ => ?_)
      refine wp_aload_n dX8_part_44 rfl rfl ?_
      refine wp_callV0 (d' := d - 1) cv_RX8_194 69 rfl [] [] rfl rfl (Or.inl ⟨_, _, rfl, by decide, rfl, by omega, by omega⟩) (by omega) (Nat.le_of_ble_eq_true rfl) dX8_part_45 rfl (Nat.le_of_ble_eq_true rfl) (by omega) (loc1 := [(2, 69)]) rfl ?_
      refine sp_failm hn J2 (fun M7 D7 f7 => ?_)
      have F7 := (F2).tr f7
      refine wp_aload_n dX8_part_48 rfl rfl ?_
      refine wp_get 69 rfl fl_RX8_181 rfl ⟨by omega, by omega⟩ dX8_part_49 rfl (v := 1) (D7.2.2.1) ?_
      refine wp_if_ne (tgt := 59) dX8_part_52 (by decide) (fun _ => ?_) (fun h => absurd h (by decide))
      refine wp_iload_n dX8_part_59 rfl rfl ?_
      refine wp_iret rfl dX8_part_60 ?_
      have ee : prtP f z key x = pbd ((lv f z 5).2.2 (lxN f z x)) (fun y c v => if lxT f z y = 59 then .inr (lxN f z y, c, v) else .inl (lxA f z y)) := if_pos hk1
      rw [ee, r2] at k
      replace k : ∀ M' w, PoM M0 t f z 0 e (if lxT f z y2 = 59 then .inr (lxN f z y2, c2, v2) else .inl (lxA f z y2)) M' w → Q (some (0, w)) M' := k
      rw [if_neg t5] at k
      exact k _ _ ⟨F7, D7⟩
set_option maxRecDepth 20000 in
set_option maxHeartbeats 4000000 in
theorem sp_part0 {l : Launch} {g : Gw} {n : Nat} (hn : 90 ≤ n) {t : Nat} {f : Nat → Int} {z : Int} {e : Int → Int} {d : Nat} {M0 : Mm} {Q : Option Wd → Mm → Prop} (hd : 60 ≤ d) (hB : BT f z) {x : Nat} (hJ : RJm M0 t f z x 0 e) (hx : (x : Int) ≤ z) {key : Int} (hkey : 256 ≤ key) (hk1 : lxT f z x ≠ key) (k : ∀ M' w, PoM M0 t f z 0 e (prtP f z key x) M' w → Q (some (0, w)) M') : Wp l g d 0 0 n m_X8_part 0 [] [(2, 69), (0, 0), (9, 0)] M0 Q := by
  refine wp_iload_n dX8_part_0 rfl rfl ?_
  refine wp_if_ne (tgt := 8) dX8_part_1 (by decide) (fun h => absurd h (by decide)) (fun _ => ?_)
  refine wp_aload_n dX8_part_4 rfl rfl ?_
  refine wp_callV0 (d' := d - 1) cv_RX8_194 69 rfl [] [] rfl rfl (Or.inl ⟨_, _, rfl, by decide, rfl, by omega, by omega⟩) (by omega) (Nat.le_of_ble_eq_true rfl) dX8_part_5 rfl (Nat.le_of_ble_eq_true rfl) (by omega) (loc1 := [(2, 69)]) rfl ?_
  refine sp_failm hn hJ (fun M1 D1 f1 => ?_)
  have F1 := ((Fr.rf : Fr VMr M0 M0)).tr f1
  refine wp_aload_n dX8_part_8 rfl rfl ?_
  refine wp_get 69 rfl fl_RX8_181 rfl ⟨by omega, by omega⟩ dX8_part_9 rfl (v := 1) (D1.2.2.1) ?_
  refine wp_if_ne (tgt := 19) dX8_part_12 (by decide) (fun _ => ?_) (fun h => absurd h (by decide))
  refine wp_aload_n dX8_part_19 rfl rfl ?_
  refine wp_get 69 rfl fl_RX8_181 rfl ⟨by omega, by omega⟩ dX8_part_20 rfl (v := 1) (D1.2.2.1) ?_
  refine wp_if_eq (tgt := 30) dX8_part_23 (by decide) (fun h => absurd h (by decide)) (fun _ => ?_)
  refine wp_iconst dX8_part_26 (by decide) ?_
  refine wp_goto (tgt := 34) dX8_part_27 (by decide) ?_
  refine wp_istore_n (loc' := [(2, 69), (0, 0), (0, 0)]) dX8_part_34 rfl (Nat.le_of_ble_eq_true rfl) rfl ?_
  refine wp_aload_n dX8_part_35 rfl rfl ?_
  refine wp_bipush dX8_part_36 (by decide) (by decide) ?_
  refine wp_callV0 (d' := d - 1) cv_RX8_222 69 rfl [(0, 59)] [] rfl rfl (Or.inl ⟨_, _, rfl, by decide, rfl, by omega, by omega⟩) (by omega) (Nat.le_of_ble_eq_true rfl) dX8_part_38 rfl (Nat.le_of_ble_eq_true rfl) (by omega) (loc1 := [(2, 69), (0, 59)]) rfl ?_
  refine sp_isSd hn D1 ?_
  refine wp_if_ne (tgt := 48) dX8_part_41 (by decide) (fun h => absurd h (by decide)) (fun _ => ?_)
  refine wp_aload_n dX8_part_44 rfl rfl ?_
  refine wp_callV0 (d' := d - 1) cv_RX8_194 69 rfl [] [] rfl rfl (Or.inl ⟨_, _, rfl, by decide, rfl, by omega, by omega⟩) (by omega) (Nat.le_of_ble_eq_true rfl) dX8_part_45 rfl (Nat.le_of_ble_eq_true rfl) (by omega) (loc1 := [(2, 69)]) rfl ?_
  refine sp_failmD hn D1 ?_
  refine wp_aload_n dX8_part_48 rfl rfl ?_
  refine wp_get 69 rfl fl_RX8_181 rfl ⟨by omega, by omega⟩ dX8_part_49 rfl (v := 1) (D1.2.2.1) ?_
  refine wp_if_ne (tgt := 59) dX8_part_52 (by decide) (fun _ => ?_) (fun h => absurd h (by decide))
  refine wp_iload_n dX8_part_59 rfl rfl ?_
  refine wp_iret rfl dX8_part_60 ?_
  have ee : prtP f z key x = .inl (lxA f z x) := if_neg (by omega)
  rw [ee] at k
  exact k _ _ ⟨F1, D1⟩
def VMq (i j : Nat) : Prop := i = 69 ∧ 19 ≤ j ∧ j ≤ 27
theorem VMq.sr {M M' : Mm} (h : Fr VMq M M') (hR : SR M) : SR M' := hR.frL h (by unfold VMq; decide +kernel)
theorem VMr.q : ∀ i j, VMr i j → VMq i j := by
  intro i j h
  unfold VMr at h
  unfold VMq
  omega
theorem VM1.q : ∀ i j, VM1 i j → VMq i j := fun i j h => VMr.q i j (VM1.r i j h)
/-- a text as the model keeps it -/
def TXM (M : Mm) (t : Nat) (f : Nat → Int) (z : Int) : Prop := M 71 t = z ∧ 0 ≤ z ∧ z ≤ 160 ∧ ∀ i : Nat, (i : Int) < z → M 70 (160 * t + i) = f i
set_option maxRecDepth 20000 in
set_option maxHeartbeats 4000000 in
theorem sp_read {l : Launch} {g : Gw} {d n : Nat} {M : Mm} {Q : Option Wd → Mm → Prop} (hn : 90 ≤ n) {t : Nat} {f : Nat → Int} {z : Int} {e : Int → Int} (hd : 62 ≤ d) (hR : SR M) (ht : t < 6) (hX : TXM M t f z) (hB : BT f z) (hE : ENm M e) (wh : Int) (kf : ∀ (p : Nat) M' v, txtP f z = .inl p → Fr VMq M M' → M' 69 26 = 1 → M' 69 27 = (p : Int) → Q (some (0, v)) M') (kt : ∀ q M', txtP f z = .inr q → Fr VMq M M' → M' 69 26 = 0 → Q (some (0, if wh = 0 then q.1.2 e else if wh = 1 then q.2.1.2 e else q.2.2.2 e)) M') : Wp l g d 0 0 n m_X8_read 0 [] [(2, 69), (0, (t : Int)), (0, wh), (9, 0), (9, 0), (9, 0)] M Q := by
  obtain ⟨h71, hz0, hz1, h70⟩ := id hX
  refine wp_aload_n dX8_read_0 rfl rfl ?_
  refine wp_sipush dX8_read_1 (by decide) (by decide) ?_
  refine wp_iload_n dX8_read_4 rfl rfl ?_
  refine wp_imul dX8_read_5 (by omega) ?_
  refine wp_puti 69 rfl fl_RX8_152 rfl ⟨by omega, by omega⟩ dX8_read_6 rfl rfl ?_
  refine wp_aload_n dX8_read_9 rfl rfl ?_
  refine wp_aload_n dX8_read_10 rfl rfl ?_
  refine wp_get 69 rfl fl_RX8_17 rfl ⟨by omega, by omega⟩ dX8_read_11 rfl (v := 71) (sr_69_2 (M := M) hR) ?_
  refine wp_iload_n dX8_read_14 rfl rfl ?_
  refine wp_iald 71 rfl rfl ⟨by omega, by omega⟩ ⟨by omega, by omega⟩ dX8_read_15 (v := z) (h71) ?_
  refine wp_puti 69 rfl fl_RX8_149 rfl ⟨by omega, by omega⟩ dX8_read_16 rfl rfl ?_
  refine wp_aload_n dX8_read_19 rfl rfl ?_
  refine wp_iconst dX8_read_20 (by decide) ?_
  refine wp_puti 69 rfl fl_RX8_155 rfl ⟨by omega, by omega⟩ dX8_read_21 rfl rfl ?_
  refine wp_aload_n dX8_read_24 rfl rfl ?_
  refine wp_iconst dX8_read_25 (by decide) ?_
  refine wp_puti 69 rfl fl_RX8_191 rfl ⟨by omega, by omega⟩ dX8_read_26 rfl rfl ?_
  refine wp_aload_n dX8_read_29 rfl rfl ?_
  refine wp_iconst dX8_read_30 (by decide) ?_
  refine wp_putz 69 rfl fl_RX8_181 rfl ⟨by omega, by omega⟩ dX8_read_31 rfl rfl (by omega) ?_
  refine wp_aload_n dX8_read_34 rfl rfl ?_
  refine wp_callV0 (d' := d - 1) cv_RX8_197 69 rfl [] [] rfl rfl (Or.inl ⟨_, _, rfl, by decide, rfl, by omega, by omega⟩) (by omega) (Nat.le_of_ble_eq_true rfl) dX8_read_35 rfl (Nat.le_of_ble_eq_true rfl) (by omega) (loc1 := [(2, 69), (9, 0), (9, 0)]) rfl ?_
  have F0 : Fr VMq M (mu (mu (mu (mu (mu M 69 19 (160 * (t : Int))) 69 20 z) 69 21 0) 69 25 0) 69 26 0) := ((((Fr.rf.put ⟨rfl, by omega, by omega⟩).put ⟨rfl, by omega, by omega⟩).put ⟨rfl, by omega, by omega⟩).put ⟨rfl, by omega, by omega⟩).put ⟨rfl, by omega, by omega⟩
  have hP0 : TPm (mu (mu (mu (mu (mu M 69 19 (160 * (t : Int))) 69 20 z) 69 21 0) 69 25 0) 69 26 0) t f z := ⟨VMq.sr F0 hR, rfl, ht, rfl, hz0, hz1, fun i hi => (F0 70 _ (by unfold VMq; omega)).trans (h70 i hi)⟩
  have a21 : (mu (mu (mu (mu (mu M 69 19 (160 * (t : Int))) 69 20 z) 69 21 0) 69 25 0) 69 26 0) 69 21 = ((0 : Nat) : Int) := rfl
  have a25 : (mu (mu (mu (mu (mu M 69 19 (160 * (t : Int))) 69 20 z) 69 21 0) 69 25 0) 69 26 0) 69 25 = 0 := rfl
  have a26 : (mu (mu (mu (mu (mu M 69 19 (160 * (t : Int))) 69 20 z) 69 21 0) 69 25 0) 69 26 0) 69 26 = 0 := rfl
  have aE : ENm (mu (mu (mu (mu (mu M 69 19 (160 * (t : Int))) 69 20 z) 69 21 0) 69 25 0) 69 26 0) e := hE
  generalize (mu (mu (mu (mu (mu M 69 19 (160 * (t : Int))) 69 20 z) 69 21 0) 69 25 0) 69 26 0) = N0 at F0 hP0 a21 a25 a26 aE ⊢
  refine sp_next hn (by omega) hB hP0 a21 (by omega) (fun M1 f1 l1 => ?_)
  have J1 : RJm M1 t f z 0 0 e := ⟨hP0.fr (f1.mono VM1.r), l1, (f1 69 25 (by unfold VM1; omega)).trans a25, (f1 69 26 (by unfold VM1; omega)).trans a26, aE.fr (f1.mono VM1.r)⟩
  have H1 : Fr VMq M M1 := F0.tr (f1.mono VM1.q)
  have Z1 : ((0 : Nat) : Int) ≤ z := by omega
  refine wp_aload_n dX8_read_38 rfl rfl ?_
  refine wp_aload_n dX8_read_39 rfl rfl ?_
  refine wp_bipush dX8_read_40 (by decide) (by decide) ?_
  refine wp_bipush dX8_read_42 (by decide) (by decide) ?_
  refine wp_bipush dX8_read_44 (by decide) (by decide) ?_
  refine wp_bipush dX8_read_46 (by decide) (by decide) ?_
  refine wp_bipush dX8_read_48 (by decide) (by decide) ?_
  refine wp_iconst dX8_read_50 (by decide) ?_
  refine wp_iconst dX8_read_51 (by decide) ?_
  refine wp_iconst dX8_read_52 (by decide) ?_
  refine wp_callV0 (d' := d - 1) cv_RX8_200 69 rfl [(0, 109), (0, 105), (0, 110), (0, 100), (0, 115), (0, 0), (0, 0), (0, 0)] [(2, 69)] rfl rfl (Or.inl ⟨_, _, rfl, by decide, rfl, by omega, by omega⟩) (by omega) (Nat.le_of_ble_eq_true rfl) dX8_read_53 rfl (Nat.le_of_ble_eq_true rfl) (by omega) (loc1 := [(2, 69), (0, 109), (0, 105), (0, 110), (0, 100), (0, 115), (0, 0), (0, 0), (0, 0)]) rfl ?_
  refine sp_isWm_0 hn (by omega) J1 Z1 (fun t2 => ?_) (fun t2 => ?_)
  · refine wp_callV0 (d' := d - 1) cv_RX8_345 69 rfl [(0, 1)] [] rfl rfl (Or.inl ⟨_, _, rfl, by decide, rfl, by omega, by omega⟩) (by omega) (Nat.le_of_ble_eq_true rfl) dX8_read_56 rfl (Nat.le_of_ble_eq_true rfl) (by omega) (loc1 := [(2, 69), (0, 1), (9, 0)]) rfl ?_
    refine sp_part1 hn (by omega) hB J1 Z1 (key := 256) (by decide) t2 (fun M3 w3 q3 => ?_)
    obtain ⟨f3, q3⟩ := q3
    have F3 := ((Fr.rf : Fr VMr M1 M1)).tr f3
    have b3 := PQ_prt (f := f) (z := z) (key := 256) (by decide) _ Z1
    generalize r3 : prtP f z 256 0 = u3 at q3 b3
    rcases u3 with p3 | ⟨y3, c3, v3⟩
    · have D3 : DJm M3 t f z p3 0 e := q3
      refine wp_istore_n (loc' := [(2, 69), (0, (t : Int)), (0, wh), (0, w3), (9, 0), (9, 0)]) dX8_read_59 rfl (Nat.le_of_ble_eq_true rfl) rfl ?_
      refine wp_aload_n dX8_read_60 rfl rfl ?_
      refine wp_get 69 rfl fl_RX8_181 rfl ⟨by omega, by omega⟩ dX8_read_61 rfl (v := 1) (D3.2.2.1) ?_
      refine wp_if_eq (tgt := 71) dX8_read_64 (by decide) (fun h => absurd h (by decide)) (fun _ => ?_)
      refine wp_iconst dX8_read_67 (by decide) ?_
      refine wp_goto (tgt := 92) dX8_read_68 (by decide) ?_
      refine wp_istore (loc' := [(2, 69), (0, (t : Int)), (0, wh), (0, w3), (0, 0), (9, 0)]) dX8_read_92 (Nat.le_of_ble_eq_true rfl) rfl ?_
      refine wp_aload_n dX8_read_94 rfl rfl ?_
      refine wp_get 69 rfl fl_RX8_181 rfl ⟨by omega, by omega⟩ dX8_read_95 rfl (v := 1) (D3.2.2.1) ?_
      refine wp_if_eq (tgt := 105) dX8_read_98 (by decide) (fun h => absurd h (by decide)) (fun _ => ?_)
      refine wp_iconst dX8_read_101 (by decide) ?_
      refine wp_goto (tgt := 125) dX8_read_102 (by decide) ?_
      refine wp_istore (loc' := [(2, 69), (0, (t : Int)), (0, wh), (0, w3), (0, 0), (0, 0)]) dX8_read_125 (Nat.le_of_ble_eq_true rfl) rfl ?_
      refine wp_aload_n dX8_read_127 rfl rfl ?_
      refine wp_get 69 rfl fl_RX8_181 rfl ⟨by omega, by omega⟩ dX8_read_128 rfl (v := 1) (D3.2.2.1) ?_
      refine wp_if_ne (tgt := 145) dX8_read_131 (by decide) (fun _ => ?_) (fun h => absurd h (by decide))
      refine wp_iload_n dX8_read_145 rfl rfl ?_
      refine wp_if_ne (tgt := 153) dX8_read_146 (by decide) (fun h146 => ?_) (fun h146 => ?_)
      · refine wp_iload_n dX8_read_153 rfl rfl ?_
        refine wp_iconst dX8_read_154 (by decide) ?_
        refine wp_icmp_ne (tgt := 163) dX8_read_155 (by decide) (fun h155 => ?_) (fun h155 => ?_)
        · refine wp_iload dX8_read_163 rfl ?_
          refine wp_iret rfl dX8_read_165 ?_
          have FF : Fr VMq M M3 := H1.tr ((F3).mono VMr.q)
          have ee : txtP f z = .inl p3 := by unfold txtP; rw [r3]
          exact kf _ _ _ ee FF (D3).2.2.1 (D3).2.2.2.1
        · refine wp_iload dX8_read_158 rfl ?_
          refine wp_goto (tgt := 165) dX8_read_160 (by decide) ?_
          refine wp_iret rfl dX8_read_165 ?_
          have FF : Fr VMq M M3 := H1.tr ((F3).mono VMr.q)
          have ee : txtP f z = .inl p3 := by unfold txtP; rw [r3]
          exact kf _ _ _ ee FF (D3).2.2.1 (D3).2.2.2.1
      · refine wp_iload_n dX8_read_149 rfl rfl ?_
        refine wp_goto (tgt := 165) dX8_read_150 (by decide) ?_
        refine wp_iret rfl dX8_read_165 ?_
        have FF : Fr VMq M M3 := H1.tr ((F3).mono VMr.q)
        have ee : txtP f z = .inl p3 := by unfold txtP; rw [r3]
        exact kf _ _ _ ee FF (D3).2.2.1 (D3).2.2.2.1
    · obtain ⟨J3, e3⟩ : RJm M3 t f z y3 0 e ∧ w3 = v3 e := q3
      obtain ⟨b3, B3, _⟩ : 0 + c3.length ≤ y3 ∧ (y3 : Int) ≤ z ∧ _ := b3
      refine wp_istore_n (loc' := [(2, 69), (0, (t : Int)), (0, wh), (0, w3), (9, 0), (9, 0)]) dX8_read_59 rfl (Nat.le_of_ble_eq_true rfl) rfl ?_
      refine wp_aload_n dX8_read_60 rfl rfl ?_
      refine wp_get 69 rfl fl_RX8_181 rfl ⟨by omega, by omega⟩ dX8_read_61 rfl (v := 0) (J3.2.2.2.1) ?_
      refine wp_if_eq (tgt := 71) dX8_read_64 (by decide) (fun _ => ?_) (fun h => absurd h (by decide))
      refine wp_aload_n dX8_read_71 rfl rfl ?_
      refine wp_aload_n dX8_read_72 rfl rfl ?_
      refine wp_bipush dX8_read_73 (by decide) (by decide) ?_
      refine wp_bipush dX8_read_75 (by decide) (by decide) ?_
      refine wp_bipush dX8_read_77 (by decide) (by decide) ?_
      refine wp_bipush dX8_read_79 (by decide) (by decide) ?_
      refine wp_bipush dX8_read_81 (by decide) (by decide) ?_
      refine wp_iconst dX8_read_83 (by decide) ?_
      refine wp_iconst dX8_read_84 (by decide) ?_
      refine wp_iconst dX8_read_85 (by decide) ?_
      refine wp_callV0 (d' := d - 1) cv_RX8_200 69 rfl [(0, 108), (0, 97), (0, 115), (0, 116), (0, 115), (0, 0), (0, 0), (0, 0)] [(2, 69)] rfl rfl (Or.inl ⟨_, _, rfl, by decide, rfl, by omega, by omega⟩) (by omega) (Nat.le_of_ble_eq_true rfl) dX8_read_86 rfl (Nat.le_of_ble_eq_true rfl) (by omega) (loc1 := [(2, 69), (0, 108), (0, 97), (0, 115), (0, 116), (0, 115), (0, 0), (0, 0), (0, 0)]) rfl ?_
      refine sp_isWm_1 hn (by omega) J3 B3 (fun t4 => ?_) (fun t4 => ?_)
      · refine wp_callV0 (d' := d - 1) cv_RX8_345 69 rfl [(0, 1)] [] rfl rfl (Or.inl ⟨_, _, rfl, by decide, rfl, by omega, by omega⟩) (by omega) (Nat.le_of_ble_eq_true rfl) dX8_read_89 rfl (Nat.le_of_ble_eq_true rfl) (by omega) (loc1 := [(2, 69), (0, 1), (9, 0)]) rfl ?_
        refine sp_part1 hn (by omega) hB J3 B3 (key := 257) (by decide) t4 (fun M5 w5 q5 => ?_)
        obtain ⟨f5, q5⟩ := q5
        have F5 := (F3).tr f5
        have b5 := PQ_prt (f := f) (z := z) (key := 257) (by decide) _ B3
        generalize r5 : prtP f z 257 y3 = u5 at q5 b5
        rcases u5 with p5 | ⟨y5, c5, v5⟩
        · have D5 : DJm M5 t f z p5 0 e := q5
          refine wp_istore (loc' := [(2, 69), (0, (t : Int)), (0, wh), (0, w3), (0, w5), (9, 0)]) dX8_read_92 (Nat.le_of_ble_eq_true rfl) rfl ?_
          refine wp_aload_n dX8_read_94 rfl rfl ?_
          refine wp_get 69 rfl fl_RX8_181 rfl ⟨by omega, by omega⟩ dX8_read_95 rfl (v := 1) (D5.2.2.1) ?_
          refine wp_if_eq (tgt := 105) dX8_read_98 (by decide) (fun h => absurd h (by decide)) (fun _ => ?_)
          refine wp_iconst dX8_read_101 (by decide) ?_
          refine wp_goto (tgt := 125) dX8_read_102 (by decide) ?_
          refine wp_istore (loc' := [(2, 69), (0, (t : Int)), (0, wh), (0, w3), (0, w5), (0, 0)]) dX8_read_125 (Nat.le_of_ble_eq_true rfl) rfl ?_
          refine wp_aload_n dX8_read_127 rfl rfl ?_
          refine wp_get 69 rfl fl_RX8_181 rfl ⟨by omega, by omega⟩ dX8_read_128 rfl (v := 1) (D5.2.2.1) ?_
          refine wp_if_ne (tgt := 145) dX8_read_131 (by decide) (fun _ => ?_) (fun h => absurd h (by decide))
          refine wp_iload_n dX8_read_145 rfl rfl ?_
          refine wp_if_ne (tgt := 153) dX8_read_146 (by decide) (fun h146 => ?_) (fun h146 => ?_)
          · refine wp_iload_n dX8_read_153 rfl rfl ?_
            refine wp_iconst dX8_read_154 (by decide) ?_
            refine wp_icmp_ne (tgt := 163) dX8_read_155 (by decide) (fun h155 => ?_) (fun h155 => ?_)
            · refine wp_iload dX8_read_163 rfl ?_
              refine wp_iret rfl dX8_read_165 ?_
              have FF : Fr VMq M M5 := H1.tr ((F5).mono VMr.q)
              have ee : txtP f z = .inl p5 := by unfold txtP; rw [r3]; dsimp only; rw [r5]
              exact kf _ _ _ ee FF (D5).2.2.1 (D5).2.2.2.1
            · refine wp_iload dX8_read_158 rfl ?_
              refine wp_goto (tgt := 165) dX8_read_160 (by decide) ?_
              refine wp_iret rfl dX8_read_165 ?_
              have FF : Fr VMq M M5 := H1.tr ((F5).mono VMr.q)
              have ee : txtP f z = .inl p5 := by unfold txtP; rw [r3]; dsimp only; rw [r5]
              exact kf _ _ _ ee FF (D5).2.2.1 (D5).2.2.2.1
          · refine wp_iload_n dX8_read_149 rfl rfl ?_
            refine wp_goto (tgt := 165) dX8_read_150 (by decide) ?_
            refine wp_iret rfl dX8_read_165 ?_
            have FF : Fr VMq M M5 := H1.tr ((F5).mono VMr.q)
            have ee : txtP f z = .inl p5 := by unfold txtP; rw [r3]; dsimp only; rw [r5]
            exact kf _ _ _ ee FF (D5).2.2.1 (D5).2.2.2.1
        · obtain ⟨J5, e5⟩ : RJm M5 t f z y5 0 e ∧ w5 = v5 e := q5
          obtain ⟨b5, B5, _⟩ : y3 + c5.length ≤ y5 ∧ (y5 : Int) ≤ z ∧ _ := b5
          refine wp_istore (loc' := [(2, 69), (0, (t : Int)), (0, wh), (0, w3), (0, w5), (9, 0)]) dX8_read_92 (Nat.le_of_ble_eq_true rfl) rfl ?_
          refine wp_aload_n dX8_read_94 rfl rfl ?_
          refine wp_get 69 rfl fl_RX8_181 rfl ⟨by omega, by omega⟩ dX8_read_95 rfl (v := 0) (J5.2.2.2.1) ?_
          refine wp_if_eq (tgt := 105) dX8_read_98 (by decide) (fun _ => ?_) (fun h => absurd h (by decide))
          refine wp_aload_n dX8_read_105 rfl rfl ?_
          refine wp_aload_n dX8_read_106 rfl rfl ?_
          refine wp_bipush dX8_read_107 (by decide) (by decide) ?_
          refine wp_bipush dX8_read_109 (by decide) (by decide) ?_
          refine wp_bipush dX8_read_111 (by decide) (by decide) ?_
          refine wp_bipush dX8_read_113 (by decide) (by decide) ?_
          refine wp_iconst dX8_read_115 (by decide) ?_
          refine wp_iconst dX8_read_116 (by decide) ?_
          refine wp_iconst dX8_read_117 (by decide) ?_
          refine wp_iconst dX8_read_118 (by decide) ?_
          refine wp_callV0 (d' := d - 1) cv_RX8_200 69 rfl [(0, 105), (0, 114), (0, 107), (0, 115), (0, 0), (0, 0), (0, 0), (0, 0)] [(2, 69)] rfl rfl (Or.inl ⟨_, _, rfl, by decide, rfl, by omega, by omega⟩) (by omega) (Nat.le_of_ble_eq_true rfl) dX8_read_119 rfl (Nat.le_of_ble_eq_true rfl) (by omega) (loc1 := [(2, 69), (0, 105), (0, 114), (0, 107), (0, 115), (0, 0), (0, 0), (0, 0), (0, 0)]) rfl ?_
          refine sp_isWm_2 hn (by omega) J5 B5 (fun t6 => ?_) (fun t6 => ?_)
          · refine wp_callV0 (d' := d - 1) cv_RX8_345 69 rfl [(0, 1)] [] rfl rfl (Or.inl ⟨_, _, rfl, by decide, rfl, by omega, by omega⟩) (by omega) (Nat.le_of_ble_eq_true rfl) dX8_read_122 rfl (Nat.le_of_ble_eq_true rfl) (by omega) (loc1 := [(2, 69), (0, 1), (9, 0)]) rfl ?_
            refine sp_part1 hn (by omega) hB J5 B5 (key := 258) (by decide) t6 (fun M7 w7 q7 => ?_)
            obtain ⟨f7, q7⟩ := q7
            have F7 := (F5).tr f7
            have b7 := PQ_prt (f := f) (z := z) (key := 258) (by decide) _ B5
            generalize r7 : prtP f z 258 y5 = u7 at q7 b7
            rcases u7 with p7 | ⟨y7, c7, v7⟩
            · have D7 : DJm M7 t f z p7 0 e := q7
              refine wp_istore (loc' := [(2, 69), (0, (t : Int)), (0, wh), (0, w3), (0, w5), (0, w7)]) dX8_read_125 (Nat.le_of_ble_eq_true rfl) rfl ?_
              refine wp_aload_n dX8_read_127 rfl rfl ?_
              refine wp_get 69 rfl fl_RX8_181 rfl ⟨by omega, by omega⟩ dX8_read_128 rfl (v := 1) (D7.2.2.1) ?_
              refine wp_if_ne (tgt := 145) dX8_read_131 (by decide) (fun _ => ?_) (fun h => absurd h (by decide))
              refine wp_iload_n dX8_read_145 rfl rfl ?_
              refine wp_if_ne (tgt := 153) dX8_read_146 (by decide) (fun h146 => ?_) (fun h146 => ?_)
              · refine wp_iload_n dX8_read_153 rfl rfl ?_
                refine wp_iconst dX8_read_154 (by decide) ?_
                refine wp_icmp_ne (tgt := 163) dX8_read_155 (by decide) (fun h155 => ?_) (fun h155 => ?_)
                · refine wp_iload dX8_read_163 rfl ?_
                  refine wp_iret rfl dX8_read_165 ?_
                  have FF : Fr VMq M M7 := H1.tr ((F7).mono VMr.q)
                  have ee : txtP f z = .inl p7 := by unfold txtP; rw [r3]; dsimp only; rw [r5]; dsimp only; rw [r7]
                  exact kf _ _ _ ee FF (D7).2.2.1 (D7).2.2.2.1
                · refine wp_iload dX8_read_158 rfl ?_
                  refine wp_goto (tgt := 165) dX8_read_160 (by decide) ?_
                  refine wp_iret rfl dX8_read_165 ?_
                  have FF : Fr VMq M M7 := H1.tr ((F7).mono VMr.q)
                  have ee : txtP f z = .inl p7 := by unfold txtP; rw [r3]; dsimp only; rw [r5]; dsimp only; rw [r7]
                  exact kf _ _ _ ee FF (D7).2.2.1 (D7).2.2.2.1
              · refine wp_iload_n dX8_read_149 rfl rfl ?_
                refine wp_goto (tgt := 165) dX8_read_150 (by decide) ?_
                refine wp_iret rfl dX8_read_165 ?_
                have FF : Fr VMq M M7 := H1.tr ((F7).mono VMr.q)
                have ee : txtP f z = .inl p7 := by unfold txtP; rw [r3]; dsimp only; rw [r5]; dsimp only; rw [r7]
                exact kf _ _ _ ee FF (D7).2.2.1 (D7).2.2.2.1
            · obtain ⟨J7, e7⟩ : RJm M7 t f z y7 0 e ∧ w7 = v7 e := q7
              obtain ⟨b7, B7, _⟩ : y5 + c7.length ≤ y7 ∧ (y7 : Int) ≤ z ∧ _ := b7
              refine wp_istore (loc' := [(2, 69), (0, (t : Int)), (0, wh), (0, w3), (0, w5), (0, w7)]) dX8_read_125 (Nat.le_of_ble_eq_true rfl) rfl ?_
              refine wp_aload_n dX8_read_127 rfl rfl ?_
              refine wp_get 69 rfl fl_RX8_181 rfl ⟨by omega, by omega⟩ dX8_read_128 rfl (v := 0) (J7.2.2.2.1) ?_
              refine wp_if_ne (tgt := 145) dX8_read_131 (by decide) (fun h => absurd h (by decide)) (fun _ => ?_)
              refine wp_aload_n dX8_read_134 rfl rfl ?_
              refine wp_get 69 rfl fl_RX8_164 rfl ⟨by omega, by omega⟩ dX8_read_135 rfl (v := (M7 69 22)) (rfl) ?_
              refine wp_if_eq (tgt := 145) dX8_read_138 (by decide) (fun h138 => ?_) (fun h138 => ?_)
              · refine wp_iload_n dX8_read_145 rfl rfl ?_
                refine wp_if_ne (tgt := 153) dX8_read_146 (by decide) (fun h146 => ?_) (fun h146 => ?_)
                · refine wp_iload_n dX8_read_153 rfl rfl ?_
                  refine wp_iconst dX8_read_154 (by decide) ?_
                  refine wp_icmp_ne (tgt := 163) dX8_read_155 (by decide) (fun h155 => ?_) (fun h155 => ?_)
                  · refine wp_iload dX8_read_163 rfl ?_
                    refine wp_iret rfl dX8_read_165 ?_
                    have FF : Fr VMq M M7 := H1.tr ((F7).mono VMr.q)
                    have et := (J7).2.1.2.2.end_.mp h138
                    have ee : txtP f z = .inr ((c3, v3), (c5, v5), (c7, v7)) := by unfold txtP; rw [r3]; dsimp only; rw [r5]; dsimp only; rw [r7]; exact if_pos et
                    have q := kt _ _ ee FF (J7).2.2.2.1
                    rw [if_neg h146, if_neg h155] at q
                    rw [e7]
                    exact q
                  · refine wp_iload dX8_read_158 rfl ?_
                    refine wp_goto (tgt := 165) dX8_read_160 (by decide) ?_
                    refine wp_iret rfl dX8_read_165 ?_
                    have FF : Fr VMq M M7 := H1.tr ((F7).mono VMr.q)
                    have et := (J7).2.1.2.2.end_.mp h138
                    have ee : txtP f z = .inr ((c3, v3), (c5, v5), (c7, v7)) := by unfold txtP; rw [r3]; dsimp only; rw [r5]; dsimp only; rw [r7]; exact if_pos et
                    have q := kt _ _ ee FF (J7).2.2.2.1
                    rw [if_neg h146, if_pos h155] at q
                    rw [e5]
                    exact q
                · refine wp_iload_n dX8_read_149 rfl rfl ?_
                  refine wp_goto (tgt := 165) dX8_read_150 (by decide) ?_
                  refine wp_iret rfl dX8_read_165 ?_
                  have FF : Fr VMq M M7 := H1.tr ((F7).mono VMr.q)
                  have et := (J7).2.1.2.2.end_.mp h138
                  have ee : txtP f z = .inr ((c3, v3), (c5, v5), (c7, v7)) := by unfold txtP; rw [r3]; dsimp only; rw [r5]; dsimp only; rw [r7]; exact if_pos et
                  have q := kt _ _ ee FF (J7).2.2.2.1
                  rw [if_pos h146] at q
                  rw [e3]
                  exact q
              · refine wp_aload_n dX8_read_141 rfl rfl ?_
                refine wp_callV0 (d' := d - 1) cv_RX8_194 69 rfl [] [] rfl rfl (Or.inl ⟨_, _, rfl, by decide, rfl, by omega, by omega⟩) (by omega) (Nat.le_of_ble_eq_true rfl) dX8_read_142 rfl (Nat.le_of_ble_eq_true rfl) (by omega) (loc1 := [(2, 69)]) rfl ?_
                refine sp_failm hn J7 (fun M8 D8 f8 => ?_)
                have F8 := (F7).tr f8
                refine wp_iload_n dX8_read_145 rfl rfl ?_
                refine wp_if_ne (tgt := 153) dX8_read_146 (by decide) (fun h146 => ?_) (fun h146 => ?_)
                · refine wp_iload_n dX8_read_153 rfl rfl ?_
                  refine wp_iconst dX8_read_154 (by decide) ?_
                  refine wp_icmp_ne (tgt := 163) dX8_read_155 (by decide) (fun h155 => ?_) (fun h155 => ?_)
                  · refine wp_iload dX8_read_163 rfl ?_
                    refine wp_iret rfl dX8_read_165 ?_
                    have FF : Fr VMq M M8 := H1.tr ((F8).mono VMr.q)
                    have et : lxT f z y7 ≠ 0 := fun h => h138 ((J7).2.1.2.2.end_.mpr h)
                    have ee : txtP f z = .inl (lxA f z y7) := by unfold txtP; rw [r3]; dsimp only; rw [r5]; dsimp only; rw [r7]; exact if_neg et
                    exact kf _ _ _ ee FF (D8).2.2.1 (D8).2.2.2.1
                  · refine wp_iload dX8_read_158 rfl ?_
                    refine wp_goto (tgt := 165) dX8_read_160 (by decide) ?_
                    refine wp_iret rfl dX8_read_165 ?_
                    have FF : Fr VMq M M8 := H1.tr ((F8).mono VMr.q)
                    have et : lxT f z y7 ≠ 0 := fun h => h138 ((J7).2.1.2.2.end_.mpr h)
                    have ee : txtP f z = .inl (lxA f z y7) := by unfold txtP; rw [r3]; dsimp only; rw [r5]; dsimp only; rw [r7]; exact if_neg et
                    exact kf _ _ _ ee FF (D8).2.2.1 (D8).2.2.2.1
                · refine wp_iload_n dX8_read_149 rfl rfl ?_
                  refine wp_goto (tgt := 165) dX8_read_150 (by decide) ?_
                  refine wp_iret rfl dX8_read_165 ?_
                  have FF : Fr VMq M M8 := H1.tr ((F8).mono VMr.q)
                  have et : lxT f z y7 ≠ 0 := fun h => h138 ((J7).2.1.2.2.end_.mpr h)
                  have ee : txtP f z = .inl (lxA f z y7) := by unfold txtP; rw [r3]; dsimp only; rw [r5]; dsimp only; rw [r7]; exact if_neg et
                  exact kf _ _ _ ee FF (D8).2.2.1 (D8).2.2.2.1
          · refine wp_callV0 (d' := d - 1) cv_RX8_345 69 rfl [(0, 0)] [] rfl rfl (Or.inl ⟨_, _, rfl, by decide, rfl, by omega, by omega⟩) (by omega) (Nat.le_of_ble_eq_true rfl) dX8_read_122 rfl (Nat.le_of_ble_eq_true rfl) (by omega) (loc1 := [(2, 69), (0, 0), (9, 0)]) rfl ?_
            refine sp_part0 hn (by omega) hB J5 B5 (key := 258) (by decide) t6 (fun M9 w9 q9 => ?_)
            obtain ⟨f9, q9⟩ := q9
            have F9 := (F5).tr f9
            have b9 := PQ_prt (f := f) (z := z) (key := 258) (by decide) _ B5
            generalize r9 : prtP f z 258 y5 = u9 at q9 b9
            rcases u9 with p9 | ⟨y9, c9, v9⟩
            · have D9 : DJm M9 t f z p9 0 e := q9
              refine wp_istore (loc' := [(2, 69), (0, (t : Int)), (0, wh), (0, w3), (0, w5), (0, w9)]) dX8_read_125 (Nat.le_of_ble_eq_true rfl) rfl ?_
              refine wp_aload_n dX8_read_127 rfl rfl ?_
              refine wp_get 69 rfl fl_RX8_181 rfl ⟨by omega, by omega⟩ dX8_read_128 rfl (v := 1) (D9.2.2.1) ?_
              refine wp_if_ne (tgt := 145) dX8_read_131 (by decide) (fun _ => ?_) (fun h => absurd h (by decide))
              refine wp_iload_n dX8_read_145 rfl rfl ?_
              refine wp_if_ne (tgt := 153) dX8_read_146 (by decide) (fun h146 => ?_) (fun h146 => ?_)
              · refine wp_iload_n dX8_read_153 rfl rfl ?_
                refine wp_iconst dX8_read_154 (by decide) ?_
                refine wp_icmp_ne (tgt := 163) dX8_read_155 (by decide) (fun h155 => ?_) (fun h155 => ?_)
                · refine wp_iload dX8_read_163 rfl ?_
                  refine wp_iret rfl dX8_read_165 ?_
                  have FF : Fr VMq M M9 := H1.tr ((F9).mono VMr.q)
                  have ee : txtP f z = .inl p9 := by unfold txtP; rw [r3]; dsimp only; rw [r5]; dsimp only; rw [r9]
                  exact kf _ _ _ ee FF (D9).2.2.1 (D9).2.2.2.1
                · refine wp_iload dX8_read_158 rfl ?_
                  refine wp_goto (tgt := 165) dX8_read_160 (by decide) ?_
                  refine wp_iret rfl dX8_read_165 ?_
                  have FF : Fr VMq M M9 := H1.tr ((F9).mono VMr.q)
                  have ee : txtP f z = .inl p9 := by unfold txtP; rw [r3]; dsimp only; rw [r5]; dsimp only; rw [r9]
                  exact kf _ _ _ ee FF (D9).2.2.1 (D9).2.2.2.1
              · refine wp_iload_n dX8_read_149 rfl rfl ?_
                refine wp_goto (tgt := 165) dX8_read_150 (by decide) ?_
                refine wp_iret rfl dX8_read_165 ?_
                have FF : Fr VMq M M9 := H1.tr ((F9).mono VMr.q)
                have ee : txtP f z = .inl p9 := by unfold txtP; rw [r3]; dsimp only; rw [r5]; dsimp only; rw [r9]
                exact kf _ _ _ ee FF (D9).2.2.1 (D9).2.2.2.1
            · obtain ⟨J9, e9⟩ : RJm M9 t f z y9 0 e ∧ w9 = v9 e := q9
              obtain ⟨b9, B9, _⟩ : y5 + c9.length ≤ y9 ∧ (y9 : Int) ≤ z ∧ _ := b9
              refine wp_istore (loc' := [(2, 69), (0, (t : Int)), (0, wh), (0, w3), (0, w5), (0, w9)]) dX8_read_125 (Nat.le_of_ble_eq_true rfl) rfl ?_
              refine wp_aload_n dX8_read_127 rfl rfl ?_
              refine wp_get 69 rfl fl_RX8_181 rfl ⟨by omega, by omega⟩ dX8_read_128 rfl (v := 0) (J9.2.2.2.1) ?_
              refine wp_if_ne (tgt := 145) dX8_read_131 (by decide) (fun h => absurd h (by decide)) (fun _ => ?_)
              refine wp_aload_n dX8_read_134 rfl rfl ?_
              refine wp_get 69 rfl fl_RX8_164 rfl ⟨by omega, by omega⟩ dX8_read_135 rfl (v := (M9 69 22)) (rfl) ?_
              refine wp_if_eq (tgt := 145) dX8_read_138 (by decide) (fun h138 => ?_) (fun h138 => ?_)
              · refine wp_iload_n dX8_read_145 rfl rfl ?_
                refine wp_if_ne (tgt := 153) dX8_read_146 (by decide) (fun h146 => ?_) (fun h146 => ?_)
                · refine wp_iload_n dX8_read_153 rfl rfl ?_
                  refine wp_iconst dX8_read_154 (by decide) ?_
                  refine wp_icmp_ne (tgt := 163) dX8_read_155 (by decide) (fun h155 => ?_) (fun h155 => ?_)
                  · refine wp_iload dX8_read_163 rfl ?_
                    refine wp_iret rfl dX8_read_165 ?_
                    have FF : Fr VMq M M9 := H1.tr ((F9).mono VMr.q)
                    have et := (J9).2.1.2.2.end_.mp h138
                    have ee : txtP f z = .inr ((c3, v3), (c5, v5), (c9, v9)) := by unfold txtP; rw [r3]; dsimp only; rw [r5]; dsimp only; rw [r9]; exact if_pos et
                    have q := kt _ _ ee FF (J9).2.2.2.1
                    rw [if_neg h146, if_neg h155] at q
                    rw [e9]
                    exact q
                  · refine wp_iload dX8_read_158 rfl ?_
                    refine wp_goto (tgt := 165) dX8_read_160 (by decide) ?_
                    refine wp_iret rfl dX8_read_165 ?_
                    have FF : Fr VMq M M9 := H1.tr ((F9).mono VMr.q)
                    have et := (J9).2.1.2.2.end_.mp h138
                    have ee : txtP f z = .inr ((c3, v3), (c5, v5), (c9, v9)) := by unfold txtP; rw [r3]; dsimp only; rw [r5]; dsimp only; rw [r9]; exact if_pos et
                    have q := kt _ _ ee FF (J9).2.2.2.1
                    rw [if_neg h146, if_pos h155] at q
                    rw [e5]
                    exact q
                · refine wp_iload_n dX8_read_149 rfl rfl ?_
                  refine wp_goto (tgt := 165) dX8_read_150 (by decide) ?_
                  refine wp_iret rfl dX8_read_165 ?_
                  have FF : Fr VMq M M9 := H1.tr ((F9).mono VMr.q)
                  have et := (J9).2.1.2.2.end_.mp h138
                  have ee : txtP f z = .inr ((c3, v3), (c5, v5), (c9, v9)) := by unfold txtP; rw [r3]; dsimp only; rw [r5]; dsimp only; rw [r9]; exact if_pos et
                  have q := kt _ _ ee FF (J9).2.2.2.1
                  rw [if_pos h146] at q
                  rw [e3]
                  exact q
              · refine wp_aload_n dX8_read_141 rfl rfl ?_
                refine wp_callV0 (d' := d - 1) cv_RX8_194 69 rfl [] [] rfl rfl (Or.inl ⟨_, _, rfl, by decide, rfl, by omega, by omega⟩) (by omega) (Nat.le_of_ble_eq_true rfl) dX8_read_142 rfl (Nat.le_of_ble_eq_true rfl) (by omega) (loc1 := [(2, 69)]) rfl ?_
                refine sp_failm hn J9 (fun M10 D10 f10 => ?_)
                have F10 := (F9).tr f10
                refine wp_iload_n dX8_read_145 rfl rfl ?_
                refine wp_if_ne (tgt := 153) dX8_read_146 (by decide) (fun h146 => ?_) (fun h146 => ?_)
                · refine wp_iload_n dX8_read_153 rfl rfl ?_
                  refine wp_iconst dX8_read_154 (by decide) ?_
                  refine wp_icmp_ne (tgt := 163) dX8_read_155 (by decide) (fun h155 => ?_) (fun h155 => ?_)
                  · refine wp_iload dX8_read_163 rfl ?_
                    refine wp_iret rfl dX8_read_165 ?_
                    have FF : Fr VMq M M10 := H1.tr ((F10).mono VMr.q)
                    have et : lxT f z y9 ≠ 0 := fun h => h138 ((J9).2.1.2.2.end_.mpr h)
                    have ee : txtP f z = .inl (lxA f z y9) := by unfold txtP; rw [r3]; dsimp only; rw [r5]; dsimp only; rw [r9]; exact if_neg et
                    exact kf _ _ _ ee FF (D10).2.2.1 (D10).2.2.2.1
                  · refine wp_iload dX8_read_158 rfl ?_
                    refine wp_goto (tgt := 165) dX8_read_160 (by decide) ?_
                    refine wp_iret rfl dX8_read_165 ?_
                    have FF : Fr VMq M M10 := H1.tr ((F10).mono VMr.q)
                    have et : lxT f z y9 ≠ 0 := fun h => h138 ((J9).2.1.2.2.end_.mpr h)
                    have ee : txtP f z = .inl (lxA f z y9) := by unfold txtP; rw [r3]; dsimp only; rw [r5]; dsimp only; rw [r9]; exact if_neg et
                    exact kf _ _ _ ee FF (D10).2.2.1 (D10).2.2.2.1
                · refine wp_iload_n dX8_read_149 rfl rfl ?_
                  refine wp_goto (tgt := 165) dX8_read_150 (by decide) ?_
                  refine wp_iret rfl dX8_read_165 ?_
                  have FF : Fr VMq M M10 := H1.tr ((F10).mono VMr.q)
                  have et : lxT f z y9 ≠ 0 := fun h => h138 ((J9).2.1.2.2.end_.mpr h)
                  have ee : txtP f z = .inl (lxA f z y9) := by unfold txtP; rw [r3]; dsimp only; rw [r5]; dsimp only; rw [r9]; exact if_neg et
                  exact kf _ _ _ ee FF (D10).2.2.1 (D10).2.2.2.1
      · refine wp_callV0 (d' := d - 1) cv_RX8_345 69 rfl [(0, 0)] [] rfl rfl (Or.inl ⟨_, _, rfl, by decide, rfl, by omega, by omega⟩) (by omega) (Nat.le_of_ble_eq_true rfl) dX8_read_89 rfl (Nat.le_of_ble_eq_true rfl) (by omega) (loc1 := [(2, 69), (0, 0), (9, 0)]) rfl ?_
        refine sp_part0 hn (by omega) hB J3 B3 (key := 257) (by decide) t4 (fun M11 w11 q11 => ?_)
        obtain ⟨f11, q11⟩ := q11
        have F11 := (F3).tr f11
        have b11 := PQ_prt (f := f) (z := z) (key := 257) (by decide) _ B3
        generalize r11 : prtP f z 257 y3 = u11 at q11 b11
        rcases u11 with p11 | ⟨y11, c11, v11⟩
        · have D11 : DJm M11 t f z p11 0 e := q11
          refine wp_istore (loc' := [(2, 69), (0, (t : Int)), (0, wh), (0, w3), (0, w11), (9, 0)]) dX8_read_92 (Nat.le_of_ble_eq_true rfl) rfl ?_
          refine wp_aload_n dX8_read_94 rfl rfl ?_
          refine wp_get 69 rfl fl_RX8_181 rfl ⟨by omega, by omega⟩ dX8_read_95 rfl (v := 1) (D11.2.2.1) ?_
          refine wp_if_eq (tgt := 105) dX8_read_98 (by decide) (fun h => absurd h (by decide)) (fun _ => ?_)
          refine wp_iconst dX8_read_101 (by decide) ?_
          refine wp_goto (tgt := 125) dX8_read_102 (by decide) ?_
          refine wp_istore (loc' := [(2, 69), (0, (t : Int)), (0, wh), (0, w3), (0, w11), (0, 0)]) dX8_read_125 (Nat.le_of_ble_eq_true rfl) rfl ?_
          refine wp_aload_n dX8_read_127 rfl rfl ?_
          refine wp_get 69 rfl fl_RX8_181 rfl ⟨by omega, by omega⟩ dX8_read_128 rfl (v := 1) (D11.2.2.1) ?_
          refine wp_if_ne (tgt := 145) dX8_read_131 (by decide) (fun _ => ?_) (fun h => absurd h (by decide))
          refine wp_iload_n dX8_read_145 rfl rfl ?_
          refine wp_if_ne (tgt := 153) dX8_read_146 (by decide) (fun h146 => ?_) (fun h146 => ?_)
          · refine wp_iload_n dX8_read_153 rfl rfl ?_
            refine wp_iconst dX8_read_154 (by decide) ?_
            refine wp_icmp_ne (tgt := 163) dX8_read_155 (by decide) (fun h155 => ?_) (fun h155 => ?_)
            · refine wp_iload dX8_read_163 rfl ?_
              refine wp_iret rfl dX8_read_165 ?_
              have FF : Fr VMq M M11 := H1.tr ((F11).mono VMr.q)
              have ee : txtP f z = .inl p11 := by unfold txtP; rw [r3]; dsimp only; rw [r11]
              exact kf _ _ _ ee FF (D11).2.2.1 (D11).2.2.2.1
            · refine wp_iload dX8_read_158 rfl ?_
              refine wp_goto (tgt := 165) dX8_read_160 (by decide) ?_
              refine wp_iret rfl dX8_read_165 ?_
              have FF : Fr VMq M M11 := H1.tr ((F11).mono VMr.q)
              have ee : txtP f z = .inl p11 := by unfold txtP; rw [r3]; dsimp only; rw [r11]
              exact kf _ _ _ ee FF (D11).2.2.1 (D11).2.2.2.1
          · refine wp_iload_n dX8_read_149 rfl rfl ?_
            refine wp_goto (tgt := 165) dX8_read_150 (by decide) ?_
            refine wp_iret rfl dX8_read_165 ?_
            have FF : Fr VMq M M11 := H1.tr ((F11).mono VMr.q)
            have ee : txtP f z = .inl p11 := by unfold txtP; rw [r3]; dsimp only; rw [r11]
            exact kf _ _ _ ee FF (D11).2.2.1 (D11).2.2.2.1
        · obtain ⟨J11, e11⟩ : RJm M11 t f z y11 0 e ∧ w11 = v11 e := q11
          obtain ⟨b11, B11, _⟩ : y3 + c11.length ≤ y11 ∧ (y11 : Int) ≤ z ∧ _ := b11
          refine wp_istore (loc' := [(2, 69), (0, (t : Int)), (0, wh), (0, w3), (0, w11), (9, 0)]) dX8_read_92 (Nat.le_of_ble_eq_true rfl) rfl ?_
          refine wp_aload_n dX8_read_94 rfl rfl ?_
          refine wp_get 69 rfl fl_RX8_181 rfl ⟨by omega, by omega⟩ dX8_read_95 rfl (v := 0) (J11.2.2.2.1) ?_
          refine wp_if_eq (tgt := 105) dX8_read_98 (by decide) (fun _ => ?_) (fun h => absurd h (by decide))
          refine wp_aload_n dX8_read_105 rfl rfl ?_
          refine wp_aload_n dX8_read_106 rfl rfl ?_
          refine wp_bipush dX8_read_107 (by decide) (by decide) ?_
          refine wp_bipush dX8_read_109 (by decide) (by decide) ?_
          refine wp_bipush dX8_read_111 (by decide) (by decide) ?_
          refine wp_bipush dX8_read_113 (by decide) (by decide) ?_
          refine wp_iconst dX8_read_115 (by decide) ?_
          refine wp_iconst dX8_read_116 (by decide) ?_
          refine wp_iconst dX8_read_117 (by decide) ?_
          refine wp_iconst dX8_read_118 (by decide) ?_
          refine wp_callV0 (d' := d - 1) cv_RX8_200 69 rfl [(0, 105), (0, 114), (0, 107), (0, 115), (0, 0), (0, 0), (0, 0), (0, 0)] [(2, 69)] rfl rfl (Or.inl ⟨_, _, rfl, by decide, rfl, by omega, by omega⟩) (by omega) (Nat.le_of_ble_eq_true rfl) dX8_read_119 rfl (Nat.le_of_ble_eq_true rfl) (by omega) (loc1 := [(2, 69), (0, 105), (0, 114), (0, 107), (0, 115), (0, 0), (0, 0), (0, 0), (0, 0)]) rfl ?_
          refine sp_isWm_2 hn (by omega) J11 B11 (fun t12 => ?_) (fun t12 => ?_)
          · refine wp_callV0 (d' := d - 1) cv_RX8_345 69 rfl [(0, 1)] [] rfl rfl (Or.inl ⟨_, _, rfl, by decide, rfl, by omega, by omega⟩) (by omega) (Nat.le_of_ble_eq_true rfl) dX8_read_122 rfl (Nat.le_of_ble_eq_true rfl) (by omega) (loc1 := [(2, 69), (0, 1), (9, 0)]) rfl ?_
            refine sp_part1 hn (by omega) hB J11 B11 (key := 258) (by decide) t12 (fun M13 w13 q13 => ?_)
            obtain ⟨f13, q13⟩ := q13
            have F13 := (F11).tr f13
            have b13 := PQ_prt (f := f) (z := z) (key := 258) (by decide) _ B11
            generalize r13 : prtP f z 258 y11 = u13 at q13 b13
            rcases u13 with p13 | ⟨y13, c13, v13⟩
            · have D13 : DJm M13 t f z p13 0 e := q13
              refine wp_istore (loc' := [(2, 69), (0, (t : Int)), (0, wh), (0, w3), (0, w11), (0, w13)]) dX8_read_125 (Nat.le_of_ble_eq_true rfl) rfl ?_
              refine wp_aload_n dX8_read_127 rfl rfl ?_
              refine wp_get 69 rfl fl_RX8_181 rfl ⟨by omega, by omega⟩ dX8_read_128 rfl (v := 1) (D13.2.2.1) ?_
              refine wp_if_ne (tgt := 145) dX8_read_131 (by decide) (fun _ => ?_) (fun h => absurd h (by decide))
              refine wp_iload_n dX8_read_145 rfl rfl ?_
              refine wp_if_ne (tgt := 153) dX8_read_146 (by decide) (fun h146 => ?_) (fun h146 => ?_)
              · refine wp_iload_n dX8_read_153 rfl rfl ?_
                refine wp_iconst dX8_read_154 (by decide) ?_
                refine wp_icmp_ne (tgt := 163) dX8_read_155 (by decide) (fun h155 => ?_) (fun h155 => ?_)
                · refine wp_iload dX8_read_163 rfl ?_
                  refine wp_iret rfl dX8_read_165 ?_
                  have FF : Fr VMq M M13 := H1.tr ((F13).mono VMr.q)
                  have ee : txtP f z = .inl p13 := by unfold txtP; rw [r3]; dsimp only; rw [r11]; dsimp only; rw [r13]
                  exact kf _ _ _ ee FF (D13).2.2.1 (D13).2.2.2.1
                · refine wp_iload dX8_read_158 rfl ?_
                  refine wp_goto (tgt := 165) dX8_read_160 (by decide) ?_
                  refine wp_iret rfl dX8_read_165 ?_
                  have FF : Fr VMq M M13 := H1.tr ((F13).mono VMr.q)
                  have ee : txtP f z = .inl p13 := by unfold txtP; rw [r3]; dsimp only; rw [r11]; dsimp only; rw [r13]
                  exact kf _ _ _ ee FF (D13).2.2.1 (D13).2.2.2.1
              · refine wp_iload_n dX8_read_149 rfl rfl ?_
                refine wp_goto (tgt := 165) dX8_read_150 (by decide) ?_
                refine wp_iret rfl dX8_read_165 ?_
                have FF : Fr VMq M M13 := H1.tr ((F13).mono VMr.q)
                have ee : txtP f z = .inl p13 := by unfold txtP; rw [r3]; dsimp only; rw [r11]; dsimp only; rw [r13]
                exact kf _ _ _ ee FF (D13).2.2.1 (D13).2.2.2.1
            · obtain ⟨J13, e13⟩ : RJm M13 t f z y13 0 e ∧ w13 = v13 e := q13
              obtain ⟨b13, B13, _⟩ : y11 + c13.length ≤ y13 ∧ (y13 : Int) ≤ z ∧ _ := b13
              refine wp_istore (loc' := [(2, 69), (0, (t : Int)), (0, wh), (0, w3), (0, w11), (0, w13)]) dX8_read_125 (Nat.le_of_ble_eq_true rfl) rfl ?_
              refine wp_aload_n dX8_read_127 rfl rfl ?_
              refine wp_get 69 rfl fl_RX8_181 rfl ⟨by omega, by omega⟩ dX8_read_128 rfl (v := 0) (J13.2.2.2.1) ?_
              refine wp_if_ne (tgt := 145) dX8_read_131 (by decide) (fun h => absurd h (by decide)) (fun _ => ?_)
              refine wp_aload_n dX8_read_134 rfl rfl ?_
              refine wp_get 69 rfl fl_RX8_164 rfl ⟨by omega, by omega⟩ dX8_read_135 rfl (v := (M13 69 22)) (rfl) ?_
              refine wp_if_eq (tgt := 145) dX8_read_138 (by decide) (fun h138 => ?_) (fun h138 => ?_)
              · refine wp_iload_n dX8_read_145 rfl rfl ?_
                refine wp_if_ne (tgt := 153) dX8_read_146 (by decide) (fun h146 => ?_) (fun h146 => ?_)
                · refine wp_iload_n dX8_read_153 rfl rfl ?_
                  refine wp_iconst dX8_read_154 (by decide) ?_
                  refine wp_icmp_ne (tgt := 163) dX8_read_155 (by decide) (fun h155 => ?_) (fun h155 => ?_)
                  · refine wp_iload dX8_read_163 rfl ?_
                    refine wp_iret rfl dX8_read_165 ?_
                    have FF : Fr VMq M M13 := H1.tr ((F13).mono VMr.q)
                    have et := (J13).2.1.2.2.end_.mp h138
                    have ee : txtP f z = .inr ((c3, v3), (c11, v11), (c13, v13)) := by unfold txtP; rw [r3]; dsimp only; rw [r11]; dsimp only; rw [r13]; exact if_pos et
                    have q := kt _ _ ee FF (J13).2.2.2.1
                    rw [if_neg h146, if_neg h155] at q
                    rw [e13]
                    exact q
                  · refine wp_iload dX8_read_158 rfl ?_
                    refine wp_goto (tgt := 165) dX8_read_160 (by decide) ?_
                    refine wp_iret rfl dX8_read_165 ?_
                    have FF : Fr VMq M M13 := H1.tr ((F13).mono VMr.q)
                    have et := (J13).2.1.2.2.end_.mp h138
                    have ee : txtP f z = .inr ((c3, v3), (c11, v11), (c13, v13)) := by unfold txtP; rw [r3]; dsimp only; rw [r11]; dsimp only; rw [r13]; exact if_pos et
                    have q := kt _ _ ee FF (J13).2.2.2.1
                    rw [if_neg h146, if_pos h155] at q
                    rw [e11]
                    exact q
                · refine wp_iload_n dX8_read_149 rfl rfl ?_
                  refine wp_goto (tgt := 165) dX8_read_150 (by decide) ?_
                  refine wp_iret rfl dX8_read_165 ?_
                  have FF : Fr VMq M M13 := H1.tr ((F13).mono VMr.q)
                  have et := (J13).2.1.2.2.end_.mp h138
                  have ee : txtP f z = .inr ((c3, v3), (c11, v11), (c13, v13)) := by unfold txtP; rw [r3]; dsimp only; rw [r11]; dsimp only; rw [r13]; exact if_pos et
                  have q := kt _ _ ee FF (J13).2.2.2.1
                  rw [if_pos h146] at q
                  rw [e3]
                  exact q
              · refine wp_aload_n dX8_read_141 rfl rfl ?_
                refine wp_callV0 (d' := d - 1) cv_RX8_194 69 rfl [] [] rfl rfl (Or.inl ⟨_, _, rfl, by decide, rfl, by omega, by omega⟩) (by omega) (Nat.le_of_ble_eq_true rfl) dX8_read_142 rfl (Nat.le_of_ble_eq_true rfl) (by omega) (loc1 := [(2, 69)]) rfl ?_
                refine sp_failm hn J13 (fun M14 D14 f14 => ?_)
                have F14 := (F13).tr f14
                refine wp_iload_n dX8_read_145 rfl rfl ?_
                refine wp_if_ne (tgt := 153) dX8_read_146 (by decide) (fun h146 => ?_) (fun h146 => ?_)
                · refine wp_iload_n dX8_read_153 rfl rfl ?_
                  refine wp_iconst dX8_read_154 (by decide) ?_
                  refine wp_icmp_ne (tgt := 163) dX8_read_155 (by decide) (fun h155 => ?_) (fun h155 => ?_)
                  · refine wp_iload dX8_read_163 rfl ?_
                    refine wp_iret rfl dX8_read_165 ?_
                    have FF : Fr VMq M M14 := H1.tr ((F14).mono VMr.q)
                    have et : lxT f z y13 ≠ 0 := fun h => h138 ((J13).2.1.2.2.end_.mpr h)
                    have ee : txtP f z = .inl (lxA f z y13) := by unfold txtP; rw [r3]; dsimp only; rw [r11]; dsimp only; rw [r13]; exact if_neg et
                    exact kf _ _ _ ee FF (D14).2.2.1 (D14).2.2.2.1
                  · refine wp_iload dX8_read_158 rfl ?_
                    refine wp_goto (tgt := 165) dX8_read_160 (by decide) ?_
                    refine wp_iret rfl dX8_read_165 ?_
                    have FF : Fr VMq M M14 := H1.tr ((F14).mono VMr.q)
                    have et : lxT f z y13 ≠ 0 := fun h => h138 ((J13).2.1.2.2.end_.mpr h)
                    have ee : txtP f z = .inl (lxA f z y13) := by unfold txtP; rw [r3]; dsimp only; rw [r11]; dsimp only; rw [r13]; exact if_neg et
                    exact kf _ _ _ ee FF (D14).2.2.1 (D14).2.2.2.1
                · refine wp_iload_n dX8_read_149 rfl rfl ?_
                  refine wp_goto (tgt := 165) dX8_read_150 (by decide) ?_
                  refine wp_iret rfl dX8_read_165 ?_
                  have FF : Fr VMq M M14 := H1.tr ((F14).mono VMr.q)
                  have et : lxT f z y13 ≠ 0 := fun h => h138 ((J13).2.1.2.2.end_.mpr h)
                  have ee : txtP f z = .inl (lxA f z y13) := by unfold txtP; rw [r3]; dsimp only; rw [r11]; dsimp only; rw [r13]; exact if_neg et
                  exact kf _ _ _ ee FF (D14).2.2.1 (D14).2.2.2.1
          · refine wp_callV0 (d' := d - 1) cv_RX8_345 69 rfl [(0, 0)] [] rfl rfl (Or.inl ⟨_, _, rfl, by decide, rfl, by omega, by omega⟩) (by omega) (Nat.le_of_ble_eq_true rfl) dX8_read_122 rfl (Nat.le_of_ble_eq_true rfl) (by omega) (loc1 := [(2, 69), (0, 0), (9, 0)]) rfl ?_
            refine sp_part0 hn (by omega) hB J11 B11 (key := 258) (by decide) t12 (fun M15 w15 q15 => ?_)
            obtain ⟨f15, q15⟩ := q15
            have F15 := (F11).tr f15
            have b15 := PQ_prt (f := f) (z := z) (key := 258) (by decide) _ B11
            generalize r15 : prtP f z 258 y11 = u15 at q15 b15
            rcases u15 with p15 | ⟨y15, c15, v15⟩
            · have D15 : DJm M15 t f z p15 0 e := q15
              refine wp_istore (loc' := [(2, 69), (0, (t : Int)), (0, wh), (0, w3), (0, w11), (0, w15)]) dX8_read_125 (Nat.le_of_ble_eq_true rfl) rfl ?_
              refine wp_aload_n dX8_read_127 rfl rfl ?_
              refine wp_get 69 rfl fl_RX8_181 rfl ⟨by omega, by omega⟩ dX8_read_128 rfl (v := 1) (D15.2.2.1) ?_
              refine wp_if_ne (tgt := 145) dX8_read_131 (by decide) (fun _ => ?_) (fun h => absurd h (by decide))
              refine wp_iload_n dX8_read_145 rfl rfl ?_
              refine wp_if_ne (tgt := 153) dX8_read_146 (by decide) (fun h146 => ?_) (fun h146 => ?_)
              · refine wp_iload_n dX8_read_153 rfl rfl ?_
                refine wp_iconst dX8_read_154 (by decide) ?_
                refine wp_icmp_ne (tgt := 163) dX8_read_155 (by decide) (fun h155 => ?_) (fun h155 => ?_)
                · refine wp_iload dX8_read_163 rfl ?_
                  refine wp_iret rfl dX8_read_165 ?_
                  have FF : Fr VMq M M15 := H1.tr ((F15).mono VMr.q)
                  have ee : txtP f z = .inl p15 := by unfold txtP; rw [r3]; dsimp only; rw [r11]; dsimp only; rw [r15]
                  exact kf _ _ _ ee FF (D15).2.2.1 (D15).2.2.2.1
                · refine wp_iload dX8_read_158 rfl ?_
                  refine wp_goto (tgt := 165) dX8_read_160 (by decide) ?_
                  refine wp_iret rfl dX8_read_165 ?_
                  have FF : Fr VMq M M15 := H1.tr ((F15).mono VMr.q)
                  have ee : txtP f z = .inl p15 := by unfold txtP; rw [r3]; dsimp only; rw [r11]; dsimp only; rw [r15]
                  exact kf _ _ _ ee FF (D15).2.2.1 (D15).2.2.2.1
              · refine wp_iload_n dX8_read_149 rfl rfl ?_
                refine wp_goto (tgt := 165) dX8_read_150 (by decide) ?_
                refine wp_iret rfl dX8_read_165 ?_
                have FF : Fr VMq M M15 := H1.tr ((F15).mono VMr.q)
                have ee : txtP f z = .inl p15 := by unfold txtP; rw [r3]; dsimp only; rw [r11]; dsimp only; rw [r15]
                exact kf _ _ _ ee FF (D15).2.2.1 (D15).2.2.2.1
            · obtain ⟨J15, e15⟩ : RJm M15 t f z y15 0 e ∧ w15 = v15 e := q15
              obtain ⟨b15, B15, _⟩ : y11 + c15.length ≤ y15 ∧ (y15 : Int) ≤ z ∧ _ := b15
              refine wp_istore (loc' := [(2, 69), (0, (t : Int)), (0, wh), (0, w3), (0, w11), (0, w15)]) dX8_read_125 (Nat.le_of_ble_eq_true rfl) rfl ?_
              refine wp_aload_n dX8_read_127 rfl rfl ?_
              refine wp_get 69 rfl fl_RX8_181 rfl ⟨by omega, by omega⟩ dX8_read_128 rfl (v := 0) (J15.2.2.2.1) ?_
              refine wp_if_ne (tgt := 145) dX8_read_131 (by decide) (fun h => absurd h (by decide)) (fun _ => ?_)
              refine wp_aload_n dX8_read_134 rfl rfl ?_
              refine wp_get 69 rfl fl_RX8_164 rfl ⟨by omega, by omega⟩ dX8_read_135 rfl (v := (M15 69 22)) (rfl) ?_
              refine wp_if_eq (tgt := 145) dX8_read_138 (by decide) (fun h138 => ?_) (fun h138 => ?_)
              · refine wp_iload_n dX8_read_145 rfl rfl ?_
                refine wp_if_ne (tgt := 153) dX8_read_146 (by decide) (fun h146 => ?_) (fun h146 => ?_)
                · refine wp_iload_n dX8_read_153 rfl rfl ?_
                  refine wp_iconst dX8_read_154 (by decide) ?_
                  refine wp_icmp_ne (tgt := 163) dX8_read_155 (by decide) (fun h155 => ?_) (fun h155 => ?_)
                  · refine wp_iload dX8_read_163 rfl ?_
                    refine wp_iret rfl dX8_read_165 ?_
                    have FF : Fr VMq M M15 := H1.tr ((F15).mono VMr.q)
                    have et := (J15).2.1.2.2.end_.mp h138
                    have ee : txtP f z = .inr ((c3, v3), (c11, v11), (c15, v15)) := by unfold txtP; rw [r3]; dsimp only; rw [r11]; dsimp only; rw [r15]; exact if_pos et
                    have q := kt _ _ ee FF (J15).2.2.2.1
                    rw [if_neg h146, if_neg h155] at q
                    rw [e15]
                    exact q
                  · refine wp_iload dX8_read_158 rfl ?_
                    refine wp_goto (tgt := 165) dX8_read_160 (by decide) ?_
                    refine wp_iret rfl dX8_read_165 ?_
                    have FF : Fr VMq M M15 := H1.tr ((F15).mono VMr.q)
                    have et := (J15).2.1.2.2.end_.mp h138
                    have ee : txtP f z = .inr ((c3, v3), (c11, v11), (c15, v15)) := by unfold txtP; rw [r3]; dsimp only; rw [r11]; dsimp only; rw [r15]; exact if_pos et
                    have q := kt _ _ ee FF (J15).2.2.2.1
                    rw [if_neg h146, if_pos h155] at q
                    rw [e11]
                    exact q
                · refine wp_iload_n dX8_read_149 rfl rfl ?_
                  refine wp_goto (tgt := 165) dX8_read_150 (by decide) ?_
                  refine wp_iret rfl dX8_read_165 ?_
                  have FF : Fr VMq M M15 := H1.tr ((F15).mono VMr.q)
                  have et := (J15).2.1.2.2.end_.mp h138
                  have ee : txtP f z = .inr ((c3, v3), (c11, v11), (c15, v15)) := by unfold txtP; rw [r3]; dsimp only; rw [r11]; dsimp only; rw [r15]; exact if_pos et
                  have q := kt _ _ ee FF (J15).2.2.2.1
                  rw [if_pos h146] at q
                  rw [e3]
                  exact q
              · refine wp_aload_n dX8_read_141 rfl rfl ?_
                refine wp_callV0 (d' := d - 1) cv_RX8_194 69 rfl [] [] rfl rfl (Or.inl ⟨_, _, rfl, by decide, rfl, by omega, by omega⟩) (by omega) (Nat.le_of_ble_eq_true rfl) dX8_read_142 rfl (Nat.le_of_ble_eq_true rfl) (by omega) (loc1 := [(2, 69)]) rfl ?_
                refine sp_failm hn J15 (fun M16 D16 f16 => ?_)
                have F16 := (F15).tr f16
                refine wp_iload_n dX8_read_145 rfl rfl ?_
                refine wp_if_ne (tgt := 153) dX8_read_146 (by decide) (fun h146 => ?_) (fun h146 => ?_)
                · refine wp_iload_n dX8_read_153 rfl rfl ?_
                  refine wp_iconst dX8_read_154 (by decide) ?_
                  refine wp_icmp_ne (tgt := 163) dX8_read_155 (by decide) (fun h155 => ?_) (fun h155 => ?_)
                  · refine wp_iload dX8_read_163 rfl ?_
                    refine wp_iret rfl dX8_read_165 ?_
                    have FF : Fr VMq M M16 := H1.tr ((F16).mono VMr.q)
                    have et : lxT f z y15 ≠ 0 := fun h => h138 ((J15).2.1.2.2.end_.mpr h)
                    have ee : txtP f z = .inl (lxA f z y15) := by unfold txtP; rw [r3]; dsimp only; rw [r11]; dsimp only; rw [r15]; exact if_neg et
                    exact kf _ _ _ ee FF (D16).2.2.1 (D16).2.2.2.1
                  · refine wp_iload dX8_read_158 rfl ?_
                    refine wp_goto (tgt := 165) dX8_read_160 (by decide) ?_
                    refine wp_iret rfl dX8_read_165 ?_
                    have FF : Fr VMq M M16 := H1.tr ((F16).mono VMr.q)
                    have et : lxT f z y15 ≠ 0 := fun h => h138 ((J15).2.1.2.2.end_.mpr h)
                    have ee : txtP f z = .inl (lxA f z y15) := by unfold txtP; rw [r3]; dsimp only; rw [r11]; dsimp only; rw [r15]; exact if_neg et
                    exact kf _ _ _ ee FF (D16).2.2.1 (D16).2.2.2.1
                · refine wp_iload_n dX8_read_149 rfl rfl ?_
                  refine wp_goto (tgt := 165) dX8_read_150 (by decide) ?_
                  refine wp_iret rfl dX8_read_165 ?_
                  have FF : Fr VMq M M16 := H1.tr ((F16).mono VMr.q)
                  have et : lxT f z y15 ≠ 0 := fun h => h138 ((J15).2.1.2.2.end_.mpr h)
                  have ee : txtP f z = .inl (lxA f z y15) := by unfold txtP; rw [r3]; dsimp only; rw [r11]; dsimp only; rw [r15]; exact if_neg et
                  exact kf _ _ _ ee FF (D16).2.2.1 (D16).2.2.2.1
  · refine wp_callV0 (d' := d - 1) cv_RX8_345 69 rfl [(0, 0)] [] rfl rfl (Or.inl ⟨_, _, rfl, by decide, rfl, by omega, by omega⟩) (by omega) (Nat.le_of_ble_eq_true rfl) dX8_read_56 rfl (Nat.le_of_ble_eq_true rfl) (by omega) (loc1 := [(2, 69), (0, 0), (9, 0)]) rfl ?_
    refine sp_part0 hn (by omega) hB J1 Z1 (key := 256) (by decide) t2 (fun M17 w17 q17 => ?_)
    obtain ⟨f17, q17⟩ := q17
    have F17 := ((Fr.rf : Fr VMr M1 M1)).tr f17
    have b17 := PQ_prt (f := f) (z := z) (key := 256) (by decide) _ Z1
    generalize r17 : prtP f z 256 0 = u17 at q17 b17
    rcases u17 with p17 | ⟨y17, c17, v17⟩
    · have D17 : DJm M17 t f z p17 0 e := q17
      refine wp_istore_n (loc' := [(2, 69), (0, (t : Int)), (0, wh), (0, w17), (9, 0), (9, 0)]) dX8_read_59 rfl (Nat.le_of_ble_eq_true rfl) rfl ?_
      refine wp_aload_n dX8_read_60 rfl rfl ?_
      refine wp_get 69 rfl fl_RX8_181 rfl ⟨by omega, by omega⟩ dX8_read_61 rfl (v := 1) (D17.2.2.1) ?_
      refine wp_if_eq (tgt := 71) dX8_read_64 (by decide) (fun h => absurd h (by decide)) (fun _ => ?_)
      refine wp_iconst dX8_read_67 (by decide) ?_
      refine wp_goto (tgt := 92) dX8_read_68 (by decide) ?_
      refine wp_istore (loc' := [(2, 69), (0, (t : Int)), (0, wh), (0, w17), (0, 0), (9, 0)]) dX8_read_92 (Nat.le_of_ble_eq_true rfl) rfl ?_
      refine wp_aload_n dX8_read_94 rfl rfl ?_
      refine wp_get 69 rfl fl_RX8_181 rfl ⟨by omega, by omega⟩ dX8_read_95 rfl (v := 1) (D17.2.2.1) ?_
      refine wp_if_eq (tgt := 105) dX8_read_98 (by decide) (fun h => absurd h (by decide)) (fun _ => ?_)
      refine wp_iconst dX8_read_101 (by decide) ?_
      refine wp_goto (tgt := 125) dX8_read_102 (by decide) ?_
      refine wp_istore (loc' := [(2, 69), (0, (t : Int)), (0, wh), (0, w17), (0, 0), (0, 0)]) dX8_read_125 (Nat.le_of_ble_eq_true rfl) rfl ?_
      refine wp_aload_n dX8_read_127 rfl rfl ?_
      refine wp_get 69 rfl fl_RX8_181 rfl ⟨by omega, by omega⟩ dX8_read_128 rfl (v := 1) (D17.2.2.1) ?_
      refine wp_if_ne (tgt := 145) dX8_read_131 (by decide) (fun _ => ?_) (fun h => absurd h (by decide))
      refine wp_iload_n dX8_read_145 rfl rfl ?_
      refine wp_if_ne (tgt := 153) dX8_read_146 (by decide) (fun h146 => ?_) (fun h146 => ?_)
      · refine wp_iload_n dX8_read_153 rfl rfl ?_
        refine wp_iconst dX8_read_154 (by decide) ?_
        refine wp_icmp_ne (tgt := 163) dX8_read_155 (by decide) (fun h155 => ?_) (fun h155 => ?_)
        · refine wp_iload dX8_read_163 rfl ?_
          refine wp_iret rfl dX8_read_165 ?_
          have FF : Fr VMq M M17 := H1.tr ((F17).mono VMr.q)
          have ee : txtP f z = .inl p17 := by unfold txtP; rw [r17]
          exact kf _ _ _ ee FF (D17).2.2.1 (D17).2.2.2.1
        · refine wp_iload dX8_read_158 rfl ?_
          refine wp_goto (tgt := 165) dX8_read_160 (by decide) ?_
          refine wp_iret rfl dX8_read_165 ?_
          have FF : Fr VMq M M17 := H1.tr ((F17).mono VMr.q)
          have ee : txtP f z = .inl p17 := by unfold txtP; rw [r17]
          exact kf _ _ _ ee FF (D17).2.2.1 (D17).2.2.2.1
      · refine wp_iload_n dX8_read_149 rfl rfl ?_
        refine wp_goto (tgt := 165) dX8_read_150 (by decide) ?_
        refine wp_iret rfl dX8_read_165 ?_
        have FF : Fr VMq M M17 := H1.tr ((F17).mono VMr.q)
        have ee : txtP f z = .inl p17 := by unfold txtP; rw [r17]
        exact kf _ _ _ ee FF (D17).2.2.1 (D17).2.2.2.1
    · obtain ⟨J17, e17⟩ : RJm M17 t f z y17 0 e ∧ w17 = v17 e := q17
      obtain ⟨b17, B17, _⟩ : 0 + c17.length ≤ y17 ∧ (y17 : Int) ≤ z ∧ _ := b17
      refine wp_istore_n (loc' := [(2, 69), (0, (t : Int)), (0, wh), (0, w17), (9, 0), (9, 0)]) dX8_read_59 rfl (Nat.le_of_ble_eq_true rfl) rfl ?_
      refine wp_aload_n dX8_read_60 rfl rfl ?_
      refine wp_get 69 rfl fl_RX8_181 rfl ⟨by omega, by omega⟩ dX8_read_61 rfl (v := 0) (J17.2.2.2.1) ?_
      refine wp_if_eq (tgt := 71) dX8_read_64 (by decide) (fun _ => ?_) (fun h => absurd h (by decide))
      refine wp_aload_n dX8_read_71 rfl rfl ?_
      refine wp_aload_n dX8_read_72 rfl rfl ?_
      refine wp_bipush dX8_read_73 (by decide) (by decide) ?_
      refine wp_bipush dX8_read_75 (by decide) (by decide) ?_
      refine wp_bipush dX8_read_77 (by decide) (by decide) ?_
      refine wp_bipush dX8_read_79 (by decide) (by decide) ?_
      refine wp_bipush dX8_read_81 (by decide) (by decide) ?_
      refine wp_iconst dX8_read_83 (by decide) ?_
      refine wp_iconst dX8_read_84 (by decide) ?_
      refine wp_iconst dX8_read_85 (by decide) ?_
      refine wp_callV0 (d' := d - 1) cv_RX8_200 69 rfl [(0, 108), (0, 97), (0, 115), (0, 116), (0, 115), (0, 0), (0, 0), (0, 0)] [(2, 69)] rfl rfl (Or.inl ⟨_, _, rfl, by decide, rfl, by omega, by omega⟩) (by omega) (Nat.le_of_ble_eq_true rfl) dX8_read_86 rfl (Nat.le_of_ble_eq_true rfl) (by omega) (loc1 := [(2, 69), (0, 108), (0, 97), (0, 115), (0, 116), (0, 115), (0, 0), (0, 0), (0, 0)]) rfl ?_
      refine sp_isWm_1 hn (by omega) J17 B17 (fun t18 => ?_) (fun t18 => ?_)
      · refine wp_callV0 (d' := d - 1) cv_RX8_345 69 rfl [(0, 1)] [] rfl rfl (Or.inl ⟨_, _, rfl, by decide, rfl, by omega, by omega⟩) (by omega) (Nat.le_of_ble_eq_true rfl) dX8_read_89 rfl (Nat.le_of_ble_eq_true rfl) (by omega) (loc1 := [(2, 69), (0, 1), (9, 0)]) rfl ?_
        refine sp_part1 hn (by omega) hB J17 B17 (key := 257) (by decide) t18 (fun M19 w19 q19 => ?_)
        obtain ⟨f19, q19⟩ := q19
        have F19 := (F17).tr f19
        have b19 := PQ_prt (f := f) (z := z) (key := 257) (by decide) _ B17
        generalize r19 : prtP f z 257 y17 = u19 at q19 b19
        rcases u19 with p19 | ⟨y19, c19, v19⟩
        · have D19 : DJm M19 t f z p19 0 e := q19
          refine wp_istore (loc' := [(2, 69), (0, (t : Int)), (0, wh), (0, w17), (0, w19), (9, 0)]) dX8_read_92 (Nat.le_of_ble_eq_true rfl) rfl ?_
          refine wp_aload_n dX8_read_94 rfl rfl ?_
          refine wp_get 69 rfl fl_RX8_181 rfl ⟨by omega, by omega⟩ dX8_read_95 rfl (v := 1) (D19.2.2.1) ?_
          refine wp_if_eq (tgt := 105) dX8_read_98 (by decide) (fun h => absurd h (by decide)) (fun _ => ?_)
          refine wp_iconst dX8_read_101 (by decide) ?_
          refine wp_goto (tgt := 125) dX8_read_102 (by decide) ?_
          refine wp_istore (loc' := [(2, 69), (0, (t : Int)), (0, wh), (0, w17), (0, w19), (0, 0)]) dX8_read_125 (Nat.le_of_ble_eq_true rfl) rfl ?_
          refine wp_aload_n dX8_read_127 rfl rfl ?_
          refine wp_get 69 rfl fl_RX8_181 rfl ⟨by omega, by omega⟩ dX8_read_128 rfl (v := 1) (D19.2.2.1) ?_
          refine wp_if_ne (tgt := 145) dX8_read_131 (by decide) (fun _ => ?_) (fun h => absurd h (by decide))
          refine wp_iload_n dX8_read_145 rfl rfl ?_
          refine wp_if_ne (tgt := 153) dX8_read_146 (by decide) (fun h146 => ?_) (fun h146 => ?_)
          · refine wp_iload_n dX8_read_153 rfl rfl ?_
            refine wp_iconst dX8_read_154 (by decide) ?_
            refine wp_icmp_ne (tgt := 163) dX8_read_155 (by decide) (fun h155 => ?_) (fun h155 => ?_)
            · refine wp_iload dX8_read_163 rfl ?_
              refine wp_iret rfl dX8_read_165 ?_
              have FF : Fr VMq M M19 := H1.tr ((F19).mono VMr.q)
              have ee : txtP f z = .inl p19 := by unfold txtP; rw [r17]; dsimp only; rw [r19]
              exact kf _ _ _ ee FF (D19).2.2.1 (D19).2.2.2.1
            · refine wp_iload dX8_read_158 rfl ?_
              refine wp_goto (tgt := 165) dX8_read_160 (by decide) ?_
              refine wp_iret rfl dX8_read_165 ?_
              have FF : Fr VMq M M19 := H1.tr ((F19).mono VMr.q)
              have ee : txtP f z = .inl p19 := by unfold txtP; rw [r17]; dsimp only; rw [r19]
              exact kf _ _ _ ee FF (D19).2.2.1 (D19).2.2.2.1
          · refine wp_iload_n dX8_read_149 rfl rfl ?_
            refine wp_goto (tgt := 165) dX8_read_150 (by decide) ?_
            refine wp_iret rfl dX8_read_165 ?_
            have FF : Fr VMq M M19 := H1.tr ((F19).mono VMr.q)
            have ee : txtP f z = .inl p19 := by unfold txtP; rw [r17]; dsimp only; rw [r19]
            exact kf _ _ _ ee FF (D19).2.2.1 (D19).2.2.2.1
        · obtain ⟨J19, e19⟩ : RJm M19 t f z y19 0 e ∧ w19 = v19 e := q19
          obtain ⟨b19, B19, _⟩ : y17 + c19.length ≤ y19 ∧ (y19 : Int) ≤ z ∧ _ := b19
          refine wp_istore (loc' := [(2, 69), (0, (t : Int)), (0, wh), (0, w17), (0, w19), (9, 0)]) dX8_read_92 (Nat.le_of_ble_eq_true rfl) rfl ?_
          refine wp_aload_n dX8_read_94 rfl rfl ?_
          refine wp_get 69 rfl fl_RX8_181 rfl ⟨by omega, by omega⟩ dX8_read_95 rfl (v := 0) (J19.2.2.2.1) ?_
          refine wp_if_eq (tgt := 105) dX8_read_98 (by decide) (fun _ => ?_) (fun h => absurd h (by decide))
          refine wp_aload_n dX8_read_105 rfl rfl ?_
          refine wp_aload_n dX8_read_106 rfl rfl ?_
          refine wp_bipush dX8_read_107 (by decide) (by decide) ?_
          refine wp_bipush dX8_read_109 (by decide) (by decide) ?_
          refine wp_bipush dX8_read_111 (by decide) (by decide) ?_
          refine wp_bipush dX8_read_113 (by decide) (by decide) ?_
          refine wp_iconst dX8_read_115 (by decide) ?_
          refine wp_iconst dX8_read_116 (by decide) ?_
          refine wp_iconst dX8_read_117 (by decide) ?_
          refine wp_iconst dX8_read_118 (by decide) ?_
          refine wp_callV0 (d' := d - 1) cv_RX8_200 69 rfl [(0, 105), (0, 114), (0, 107), (0, 115), (0, 0), (0, 0), (0, 0), (0, 0)] [(2, 69)] rfl rfl (Or.inl ⟨_, _, rfl, by decide, rfl, by omega, by omega⟩) (by omega) (Nat.le_of_ble_eq_true rfl) dX8_read_119 rfl (Nat.le_of_ble_eq_true rfl) (by omega) (loc1 := [(2, 69), (0, 105), (0, 114), (0, 107), (0, 115), (0, 0), (0, 0), (0, 0), (0, 0)]) rfl ?_
          refine sp_isWm_2 hn (by omega) J19 B19 (fun t20 => ?_) (fun t20 => ?_)
          · refine wp_callV0 (d' := d - 1) cv_RX8_345 69 rfl [(0, 1)] [] rfl rfl (Or.inl ⟨_, _, rfl, by decide, rfl, by omega, by omega⟩) (by omega) (Nat.le_of_ble_eq_true rfl) dX8_read_122 rfl (Nat.le_of_ble_eq_true rfl) (by omega) (loc1 := [(2, 69), (0, 1), (9, 0)]) rfl ?_
            refine sp_part1 hn (by omega) hB J19 B19 (key := 258) (by decide) t20 (fun M21 w21 q21 => ?_)
            obtain ⟨f21, q21⟩ := q21
            have F21 := (F19).tr f21
            have b21 := PQ_prt (f := f) (z := z) (key := 258) (by decide) _ B19
            generalize r21 : prtP f z 258 y19 = u21 at q21 b21
            rcases u21 with p21 | ⟨y21, c21, v21⟩
            · have D21 : DJm M21 t f z p21 0 e := q21
              refine wp_istore (loc' := [(2, 69), (0, (t : Int)), (0, wh), (0, w17), (0, w19), (0, w21)]) dX8_read_125 (Nat.le_of_ble_eq_true rfl) rfl ?_
              refine wp_aload_n dX8_read_127 rfl rfl ?_
              refine wp_get 69 rfl fl_RX8_181 rfl ⟨by omega, by omega⟩ dX8_read_128 rfl (v := 1) (D21.2.2.1) ?_
              refine wp_if_ne (tgt := 145) dX8_read_131 (by decide) (fun _ => ?_) (fun h => absurd h (by decide))
              refine wp_iload_n dX8_read_145 rfl rfl ?_
              refine wp_if_ne (tgt := 153) dX8_read_146 (by decide) (fun h146 => ?_) (fun h146 => ?_)
              · refine wp_iload_n dX8_read_153 rfl rfl ?_
                refine wp_iconst dX8_read_154 (by decide) ?_
                refine wp_icmp_ne (tgt := 163) dX8_read_155 (by decide) (fun h155 => ?_) (fun h155 => ?_)
                · refine wp_iload dX8_read_163 rfl ?_
                  refine wp_iret rfl dX8_read_165 ?_
                  have FF : Fr VMq M M21 := H1.tr ((F21).mono VMr.q)
                  have ee : txtP f z = .inl p21 := by unfold txtP; rw [r17]; dsimp only; rw [r19]; dsimp only; rw [r21]
                  exact kf _ _ _ ee FF (D21).2.2.1 (D21).2.2.2.1
                · refine wp_iload dX8_read_158 rfl ?_
                  refine wp_goto (tgt := 165) dX8_read_160 (by decide) ?_
                  refine wp_iret rfl dX8_read_165 ?_
                  have FF : Fr VMq M M21 := H1.tr ((F21).mono VMr.q)
                  have ee : txtP f z = .inl p21 := by unfold txtP; rw [r17]; dsimp only; rw [r19]; dsimp only; rw [r21]
                  exact kf _ _ _ ee FF (D21).2.2.1 (D21).2.2.2.1
              · refine wp_iload_n dX8_read_149 rfl rfl ?_
                refine wp_goto (tgt := 165) dX8_read_150 (by decide) ?_
                refine wp_iret rfl dX8_read_165 ?_
                have FF : Fr VMq M M21 := H1.tr ((F21).mono VMr.q)
                have ee : txtP f z = .inl p21 := by unfold txtP; rw [r17]; dsimp only; rw [r19]; dsimp only; rw [r21]
                exact kf _ _ _ ee FF (D21).2.2.1 (D21).2.2.2.1
            · obtain ⟨J21, e21⟩ : RJm M21 t f z y21 0 e ∧ w21 = v21 e := q21
              obtain ⟨b21, B21, _⟩ : y19 + c21.length ≤ y21 ∧ (y21 : Int) ≤ z ∧ _ := b21
              refine wp_istore (loc' := [(2, 69), (0, (t : Int)), (0, wh), (0, w17), (0, w19), (0, w21)]) dX8_read_125 (Nat.le_of_ble_eq_true rfl) rfl ?_
              refine wp_aload_n dX8_read_127 rfl rfl ?_
              refine wp_get 69 rfl fl_RX8_181 rfl ⟨by omega, by omega⟩ dX8_read_128 rfl (v := 0) (J21.2.2.2.1) ?_
              refine wp_if_ne (tgt := 145) dX8_read_131 (by decide) (fun h => absurd h (by decide)) (fun _ => ?_)
              refine wp_aload_n dX8_read_134 rfl rfl ?_
              refine wp_get 69 rfl fl_RX8_164 rfl ⟨by omega, by omega⟩ dX8_read_135 rfl (v := (M21 69 22)) (rfl) ?_
              refine wp_if_eq (tgt := 145) dX8_read_138 (by decide) (fun h138 => ?_) (fun h138 => ?_)
              · refine wp_iload_n dX8_read_145 rfl rfl ?_
                refine wp_if_ne (tgt := 153) dX8_read_146 (by decide) (fun h146 => ?_) (fun h146 => ?_)
                · refine wp_iload_n dX8_read_153 rfl rfl ?_
                  refine wp_iconst dX8_read_154 (by decide) ?_
                  refine wp_icmp_ne (tgt := 163) dX8_read_155 (by decide) (fun h155 => ?_) (fun h155 => ?_)
                  · refine wp_iload dX8_read_163 rfl ?_
                    refine wp_iret rfl dX8_read_165 ?_
                    have FF : Fr VMq M M21 := H1.tr ((F21).mono VMr.q)
                    have et := (J21).2.1.2.2.end_.mp h138
                    have ee : txtP f z = .inr ((c17, v17), (c19, v19), (c21, v21)) := by unfold txtP; rw [r17]; dsimp only; rw [r19]; dsimp only; rw [r21]; exact if_pos et
                    have q := kt _ _ ee FF (J21).2.2.2.1
                    rw [if_neg h146, if_neg h155] at q
                    rw [e21]
                    exact q
                  · refine wp_iload dX8_read_158 rfl ?_
                    refine wp_goto (tgt := 165) dX8_read_160 (by decide) ?_
                    refine wp_iret rfl dX8_read_165 ?_
                    have FF : Fr VMq M M21 := H1.tr ((F21).mono VMr.q)
                    have et := (J21).2.1.2.2.end_.mp h138
                    have ee : txtP f z = .inr ((c17, v17), (c19, v19), (c21, v21)) := by unfold txtP; rw [r17]; dsimp only; rw [r19]; dsimp only; rw [r21]; exact if_pos et
                    have q := kt _ _ ee FF (J21).2.2.2.1
                    rw [if_neg h146, if_pos h155] at q
                    rw [e19]
                    exact q
                · refine wp_iload_n dX8_read_149 rfl rfl ?_
                  refine wp_goto (tgt := 165) dX8_read_150 (by decide) ?_
                  refine wp_iret rfl dX8_read_165 ?_
                  have FF : Fr VMq M M21 := H1.tr ((F21).mono VMr.q)
                  have et := (J21).2.1.2.2.end_.mp h138
                  have ee : txtP f z = .inr ((c17, v17), (c19, v19), (c21, v21)) := by unfold txtP; rw [r17]; dsimp only; rw [r19]; dsimp only; rw [r21]; exact if_pos et
                  have q := kt _ _ ee FF (J21).2.2.2.1
                  rw [if_pos h146] at q
                  rw [e17]
                  exact q
              · refine wp_aload_n dX8_read_141 rfl rfl ?_
                refine wp_callV0 (d' := d - 1) cv_RX8_194 69 rfl [] [] rfl rfl (Or.inl ⟨_, _, rfl, by decide, rfl, by omega, by omega⟩) (by omega) (Nat.le_of_ble_eq_true rfl) dX8_read_142 rfl (Nat.le_of_ble_eq_true rfl) (by omega) (loc1 := [(2, 69)]) rfl ?_
                refine sp_failm hn J21 (fun M22 D22 f22 => ?_)
                have F22 := (F21).tr f22
                refine wp_iload_n dX8_read_145 rfl rfl ?_
                refine wp_if_ne (tgt := 153) dX8_read_146 (by decide) (fun h146 => ?_) (fun h146 => ?_)
                · refine wp_iload_n dX8_read_153 rfl rfl ?_
                  refine wp_iconst dX8_read_154 (by decide) ?_
                  refine wp_icmp_ne (tgt := 163) dX8_read_155 (by decide) (fun h155 => ?_) (fun h155 => ?_)
                  · refine wp_iload dX8_read_163 rfl ?_
                    refine wp_iret rfl dX8_read_165 ?_
                    have FF : Fr VMq M M22 := H1.tr ((F22).mono VMr.q)
                    have et : lxT f z y21 ≠ 0 := fun h => h138 ((J21).2.1.2.2.end_.mpr h)
                    have ee : txtP f z = .inl (lxA f z y21) := by unfold txtP; rw [r17]; dsimp only; rw [r19]; dsimp only; rw [r21]; exact if_neg et
                    exact kf _ _ _ ee FF (D22).2.2.1 (D22).2.2.2.1
                  · refine wp_iload dX8_read_158 rfl ?_
                    refine wp_goto (tgt := 165) dX8_read_160 (by decide) ?_
                    refine wp_iret rfl dX8_read_165 ?_
                    have FF : Fr VMq M M22 := H1.tr ((F22).mono VMr.q)
                    have et : lxT f z y21 ≠ 0 := fun h => h138 ((J21).2.1.2.2.end_.mpr h)
                    have ee : txtP f z = .inl (lxA f z y21) := by unfold txtP; rw [r17]; dsimp only; rw [r19]; dsimp only; rw [r21]; exact if_neg et
                    exact kf _ _ _ ee FF (D22).2.2.1 (D22).2.2.2.1
                · refine wp_iload_n dX8_read_149 rfl rfl ?_
                  refine wp_goto (tgt := 165) dX8_read_150 (by decide) ?_
                  refine wp_iret rfl dX8_read_165 ?_
                  have FF : Fr VMq M M22 := H1.tr ((F22).mono VMr.q)
                  have et : lxT f z y21 ≠ 0 := fun h => h138 ((J21).2.1.2.2.end_.mpr h)
                  have ee : txtP f z = .inl (lxA f z y21) := by unfold txtP; rw [r17]; dsimp only; rw [r19]; dsimp only; rw [r21]; exact if_neg et
                  exact kf _ _ _ ee FF (D22).2.2.1 (D22).2.2.2.1
          · refine wp_callV0 (d' := d - 1) cv_RX8_345 69 rfl [(0, 0)] [] rfl rfl (Or.inl ⟨_, _, rfl, by decide, rfl, by omega, by omega⟩) (by omega) (Nat.le_of_ble_eq_true rfl) dX8_read_122 rfl (Nat.le_of_ble_eq_true rfl) (by omega) (loc1 := [(2, 69), (0, 0), (9, 0)]) rfl ?_
            refine sp_part0 hn (by omega) hB J19 B19 (key := 258) (by decide) t20 (fun M23 w23 q23 => ?_)
            obtain ⟨f23, q23⟩ := q23
            have F23 := (F19).tr f23
            have b23 := PQ_prt (f := f) (z := z) (key := 258) (by decide) _ B19
            generalize r23 : prtP f z 258 y19 = u23 at q23 b23
            rcases u23 with p23 | ⟨y23, c23, v23⟩
            · have D23 : DJm M23 t f z p23 0 e := q23
              refine wp_istore (loc' := [(2, 69), (0, (t : Int)), (0, wh), (0, w17), (0, w19), (0, w23)]) dX8_read_125 (Nat.le_of_ble_eq_true rfl) rfl ?_
              refine wp_aload_n dX8_read_127 rfl rfl ?_
              refine wp_get 69 rfl fl_RX8_181 rfl ⟨by omega, by omega⟩ dX8_read_128 rfl (v := 1) (D23.2.2.1) ?_
              refine wp_if_ne (tgt := 145) dX8_read_131 (by decide) (fun _ => ?_) (fun h => absurd h (by decide))
              refine wp_iload_n dX8_read_145 rfl rfl ?_
              refine wp_if_ne (tgt := 153) dX8_read_146 (by decide) (fun h146 => ?_) (fun h146 => ?_)
              · refine wp_iload_n dX8_read_153 rfl rfl ?_
                refine wp_iconst dX8_read_154 (by decide) ?_
                refine wp_icmp_ne (tgt := 163) dX8_read_155 (by decide) (fun h155 => ?_) (fun h155 => ?_)
                · refine wp_iload dX8_read_163 rfl ?_
                  refine wp_iret rfl dX8_read_165 ?_
                  have FF : Fr VMq M M23 := H1.tr ((F23).mono VMr.q)
                  have ee : txtP f z = .inl p23 := by unfold txtP; rw [r17]; dsimp only; rw [r19]; dsimp only; rw [r23]
                  exact kf _ _ _ ee FF (D23).2.2.1 (D23).2.2.2.1
                · refine wp_iload dX8_read_158 rfl ?_
                  refine wp_goto (tgt := 165) dX8_read_160 (by decide) ?_
                  refine wp_iret rfl dX8_read_165 ?_
                  have FF : Fr VMq M M23 := H1.tr ((F23).mono VMr.q)
                  have ee : txtP f z = .inl p23 := by unfold txtP; rw [r17]; dsimp only; rw [r19]; dsimp only; rw [r23]
                  exact kf _ _ _ ee FF (D23).2.2.1 (D23).2.2.2.1
              · refine wp_iload_n dX8_read_149 rfl rfl ?_
                refine wp_goto (tgt := 165) dX8_read_150 (by decide) ?_
                refine wp_iret rfl dX8_read_165 ?_
                have FF : Fr VMq M M23 := H1.tr ((F23).mono VMr.q)
                have ee : txtP f z = .inl p23 := by unfold txtP; rw [r17]; dsimp only; rw [r19]; dsimp only; rw [r23]
                exact kf _ _ _ ee FF (D23).2.2.1 (D23).2.2.2.1
            · obtain ⟨J23, e23⟩ : RJm M23 t f z y23 0 e ∧ w23 = v23 e := q23
              obtain ⟨b23, B23, _⟩ : y19 + c23.length ≤ y23 ∧ (y23 : Int) ≤ z ∧ _ := b23
              refine wp_istore (loc' := [(2, 69), (0, (t : Int)), (0, wh), (0, w17), (0, w19), (0, w23)]) dX8_read_125 (Nat.le_of_ble_eq_true rfl) rfl ?_
              refine wp_aload_n dX8_read_127 rfl rfl ?_
              refine wp_get 69 rfl fl_RX8_181 rfl ⟨by omega, by omega⟩ dX8_read_128 rfl (v := 0) (J23.2.2.2.1) ?_
              refine wp_if_ne (tgt := 145) dX8_read_131 (by decide) (fun h => absurd h (by decide)) (fun _ => ?_)
              refine wp_aload_n dX8_read_134 rfl rfl ?_
              refine wp_get 69 rfl fl_RX8_164 rfl ⟨by omega, by omega⟩ dX8_read_135 rfl (v := (M23 69 22)) (rfl) ?_
              refine wp_if_eq (tgt := 145) dX8_read_138 (by decide) (fun h138 => ?_) (fun h138 => ?_)
              · refine wp_iload_n dX8_read_145 rfl rfl ?_
                refine wp_if_ne (tgt := 153) dX8_read_146 (by decide) (fun h146 => ?_) (fun h146 => ?_)
                · refine wp_iload_n dX8_read_153 rfl rfl ?_
                  refine wp_iconst dX8_read_154 (by decide) ?_
                  refine wp_icmp_ne (tgt := 163) dX8_read_155 (by decide) (fun h155 => ?_) (fun h155 => ?_)
                  · refine wp_iload dX8_read_163 rfl ?_
                    refine wp_iret rfl dX8_read_165 ?_
                    have FF : Fr VMq M M23 := H1.tr ((F23).mono VMr.q)
                    have et := (J23).2.1.2.2.end_.mp h138
                    have ee : txtP f z = .inr ((c17, v17), (c19, v19), (c23, v23)) := by unfold txtP; rw [r17]; dsimp only; rw [r19]; dsimp only; rw [r23]; exact if_pos et
                    have q := kt _ _ ee FF (J23).2.2.2.1
                    rw [if_neg h146, if_neg h155] at q
                    rw [e23]
                    exact q
                  · refine wp_iload dX8_read_158 rfl ?_
                    refine wp_goto (tgt := 165) dX8_read_160 (by decide) ?_
                    refine wp_iret rfl dX8_read_165 ?_
                    have FF : Fr VMq M M23 := H1.tr ((F23).mono VMr.q)
                    have et := (J23).2.1.2.2.end_.mp h138
                    have ee : txtP f z = .inr ((c17, v17), (c19, v19), (c23, v23)) := by unfold txtP; rw [r17]; dsimp only; rw [r19]; dsimp only; rw [r23]; exact if_pos et
                    have q := kt _ _ ee FF (J23).2.2.2.1
                    rw [if_neg h146, if_pos h155] at q
                    rw [e19]
                    exact q
                · refine wp_iload_n dX8_read_149 rfl rfl ?_
                  refine wp_goto (tgt := 165) dX8_read_150 (by decide) ?_
                  refine wp_iret rfl dX8_read_165 ?_
                  have FF : Fr VMq M M23 := H1.tr ((F23).mono VMr.q)
                  have et := (J23).2.1.2.2.end_.mp h138
                  have ee : txtP f z = .inr ((c17, v17), (c19, v19), (c23, v23)) := by unfold txtP; rw [r17]; dsimp only; rw [r19]; dsimp only; rw [r23]; exact if_pos et
                  have q := kt _ _ ee FF (J23).2.2.2.1
                  rw [if_pos h146] at q
                  rw [e17]
                  exact q
              · refine wp_aload_n dX8_read_141 rfl rfl ?_
                refine wp_callV0 (d' := d - 1) cv_RX8_194 69 rfl [] [] rfl rfl (Or.inl ⟨_, _, rfl, by decide, rfl, by omega, by omega⟩) (by omega) (Nat.le_of_ble_eq_true rfl) dX8_read_142 rfl (Nat.le_of_ble_eq_true rfl) (by omega) (loc1 := [(2, 69)]) rfl ?_
                refine sp_failm hn J23 (fun M24 D24 f24 => ?_)
                have F24 := (F23).tr f24
                refine wp_iload_n dX8_read_145 rfl rfl ?_
                refine wp_if_ne (tgt := 153) dX8_read_146 (by decide) (fun h146 => ?_) (fun h146 => ?_)
                · refine wp_iload_n dX8_read_153 rfl rfl ?_
                  refine wp_iconst dX8_read_154 (by decide) ?_
                  refine wp_icmp_ne (tgt := 163) dX8_read_155 (by decide) (fun h155 => ?_) (fun h155 => ?_)
                  · refine wp_iload dX8_read_163 rfl ?_
                    refine wp_iret rfl dX8_read_165 ?_
                    have FF : Fr VMq M M24 := H1.tr ((F24).mono VMr.q)
                    have et : lxT f z y23 ≠ 0 := fun h => h138 ((J23).2.1.2.2.end_.mpr h)
                    have ee : txtP f z = .inl (lxA f z y23) := by unfold txtP; rw [r17]; dsimp only; rw [r19]; dsimp only; rw [r23]; exact if_neg et
                    exact kf _ _ _ ee FF (D24).2.2.1 (D24).2.2.2.1
                  · refine wp_iload dX8_read_158 rfl ?_
                    refine wp_goto (tgt := 165) dX8_read_160 (by decide) ?_
                    refine wp_iret rfl dX8_read_165 ?_
                    have FF : Fr VMq M M24 := H1.tr ((F24).mono VMr.q)
                    have et : lxT f z y23 ≠ 0 := fun h => h138 ((J23).2.1.2.2.end_.mpr h)
                    have ee : txtP f z = .inl (lxA f z y23) := by unfold txtP; rw [r17]; dsimp only; rw [r19]; dsimp only; rw [r23]; exact if_neg et
                    exact kf _ _ _ ee FF (D24).2.2.1 (D24).2.2.2.1
                · refine wp_iload_n dX8_read_149 rfl rfl ?_
                  refine wp_goto (tgt := 165) dX8_read_150 (by decide) ?_
                  refine wp_iret rfl dX8_read_165 ?_
                  have FF : Fr VMq M M24 := H1.tr ((F24).mono VMr.q)
                  have et : lxT f z y23 ≠ 0 := fun h => h138 ((J23).2.1.2.2.end_.mpr h)
                  have ee : txtP f z = .inl (lxA f z y23) := by unfold txtP; rw [r17]; dsimp only; rw [r19]; dsimp only; rw [r23]; exact if_neg et
                  exact kf _ _ _ ee FF (D24).2.2.1 (D24).2.2.2.1
      · refine wp_callV0 (d' := d - 1) cv_RX8_345 69 rfl [(0, 0)] [] rfl rfl (Or.inl ⟨_, _, rfl, by decide, rfl, by omega, by omega⟩) (by omega) (Nat.le_of_ble_eq_true rfl) dX8_read_89 rfl (Nat.le_of_ble_eq_true rfl) (by omega) (loc1 := [(2, 69), (0, 0), (9, 0)]) rfl ?_
        refine sp_part0 hn (by omega) hB J17 B17 (key := 257) (by decide) t18 (fun M25 w25 q25 => ?_)
        obtain ⟨f25, q25⟩ := q25
        have F25 := (F17).tr f25
        have b25 := PQ_prt (f := f) (z := z) (key := 257) (by decide) _ B17
        generalize r25 : prtP f z 257 y17 = u25 at q25 b25
        rcases u25 with p25 | ⟨y25, c25, v25⟩
        · have D25 : DJm M25 t f z p25 0 e := q25
          refine wp_istore (loc' := [(2, 69), (0, (t : Int)), (0, wh), (0, w17), (0, w25), (9, 0)]) dX8_read_92 (Nat.le_of_ble_eq_true rfl) rfl ?_
          refine wp_aload_n dX8_read_94 rfl rfl ?_
          refine wp_get 69 rfl fl_RX8_181 rfl ⟨by omega, by omega⟩ dX8_read_95 rfl (v := 1) (D25.2.2.1) ?_
          refine wp_if_eq (tgt := 105) dX8_read_98 (by decide) (fun h => absurd h (by decide)) (fun _ => ?_)
          refine wp_iconst dX8_read_101 (by decide) ?_
          refine wp_goto (tgt := 125) dX8_read_102 (by decide) ?_
          refine wp_istore (loc' := [(2, 69), (0, (t : Int)), (0, wh), (0, w17), (0, w25), (0, 0)]) dX8_read_125 (Nat.le_of_ble_eq_true rfl) rfl ?_
          refine wp_aload_n dX8_read_127 rfl rfl ?_
          refine wp_get 69 rfl fl_RX8_181 rfl ⟨by omega, by omega⟩ dX8_read_128 rfl (v := 1) (D25.2.2.1) ?_
          refine wp_if_ne (tgt := 145) dX8_read_131 (by decide) (fun _ => ?_) (fun h => absurd h (by decide))
          refine wp_iload_n dX8_read_145 rfl rfl ?_
          refine wp_if_ne (tgt := 153) dX8_read_146 (by decide) (fun h146 => ?_) (fun h146 => ?_)
          · refine wp_iload_n dX8_read_153 rfl rfl ?_
            refine wp_iconst dX8_read_154 (by decide) ?_
            refine wp_icmp_ne (tgt := 163) dX8_read_155 (by decide) (fun h155 => ?_) (fun h155 => ?_)
            · refine wp_iload dX8_read_163 rfl ?_
              refine wp_iret rfl dX8_read_165 ?_
              have FF : Fr VMq M M25 := H1.tr ((F25).mono VMr.q)
              have ee : txtP f z = .inl p25 := by unfold txtP; rw [r17]; dsimp only; rw [r25]
              exact kf _ _ _ ee FF (D25).2.2.1 (D25).2.2.2.1
            · refine wp_iload dX8_read_158 rfl ?_
              refine wp_goto (tgt := 165) dX8_read_160 (by decide) ?_
              refine wp_iret rfl dX8_read_165 ?_
              have FF : Fr VMq M M25 := H1.tr ((F25).mono VMr.q)
              have ee : txtP f z = .inl p25 := by unfold txtP; rw [r17]; dsimp only; rw [r25]
              exact kf _ _ _ ee FF (D25).2.2.1 (D25).2.2.2.1
          · refine wp_iload_n dX8_read_149 rfl rfl ?_
            refine wp_goto (tgt := 165) dX8_read_150 (by decide) ?_
            refine wp_iret rfl dX8_read_165 ?_
            have FF : Fr VMq M M25 := H1.tr ((F25).mono VMr.q)
            have ee : txtP f z = .inl p25 := by unfold txtP; rw [r17]; dsimp only; rw [r25]
            exact kf _ _ _ ee FF (D25).2.2.1 (D25).2.2.2.1
        · obtain ⟨J25, e25⟩ : RJm M25 t f z y25 0 e ∧ w25 = v25 e := q25
          obtain ⟨b25, B25, _⟩ : y17 + c25.length ≤ y25 ∧ (y25 : Int) ≤ z ∧ _ := b25
          refine wp_istore (loc' := [(2, 69), (0, (t : Int)), (0, wh), (0, w17), (0, w25), (9, 0)]) dX8_read_92 (Nat.le_of_ble_eq_true rfl) rfl ?_
          refine wp_aload_n dX8_read_94 rfl rfl ?_
          refine wp_get 69 rfl fl_RX8_181 rfl ⟨by omega, by omega⟩ dX8_read_95 rfl (v := 0) (J25.2.2.2.1) ?_
          refine wp_if_eq (tgt := 105) dX8_read_98 (by decide) (fun _ => ?_) (fun h => absurd h (by decide))
          refine wp_aload_n dX8_read_105 rfl rfl ?_
          refine wp_aload_n dX8_read_106 rfl rfl ?_
          refine wp_bipush dX8_read_107 (by decide) (by decide) ?_
          refine wp_bipush dX8_read_109 (by decide) (by decide) ?_
          refine wp_bipush dX8_read_111 (by decide) (by decide) ?_
          refine wp_bipush dX8_read_113 (by decide) (by decide) ?_
          refine wp_iconst dX8_read_115 (by decide) ?_
          refine wp_iconst dX8_read_116 (by decide) ?_
          refine wp_iconst dX8_read_117 (by decide) ?_
          refine wp_iconst dX8_read_118 (by decide) ?_
          refine wp_callV0 (d' := d - 1) cv_RX8_200 69 rfl [(0, 105), (0, 114), (0, 107), (0, 115), (0, 0), (0, 0), (0, 0), (0, 0)] [(2, 69)] rfl rfl (Or.inl ⟨_, _, rfl, by decide, rfl, by omega, by omega⟩) (by omega) (Nat.le_of_ble_eq_true rfl) dX8_read_119 rfl (Nat.le_of_ble_eq_true rfl) (by omega) (loc1 := [(2, 69), (0, 105), (0, 114), (0, 107), (0, 115), (0, 0), (0, 0), (0, 0), (0, 0)]) rfl ?_
          refine sp_isWm_2 hn (by omega) J25 B25 (fun t26 => ?_) (fun t26 => ?_)
          · refine wp_callV0 (d' := d - 1) cv_RX8_345 69 rfl [(0, 1)] [] rfl rfl (Or.inl ⟨_, _, rfl, by decide, rfl, by omega, by omega⟩) (by omega) (Nat.le_of_ble_eq_true rfl) dX8_read_122 rfl (Nat.le_of_ble_eq_true rfl) (by omega) (loc1 := [(2, 69), (0, 1), (9, 0)]) rfl ?_
            refine sp_part1 hn (by omega) hB J25 B25 (key := 258) (by decide) t26 (fun M27 w27 q27 => ?_)
            obtain ⟨f27, q27⟩ := q27
            have F27 := (F25).tr f27
            have b27 := PQ_prt (f := f) (z := z) (key := 258) (by decide) _ B25
            generalize r27 : prtP f z 258 y25 = u27 at q27 b27
            rcases u27 with p27 | ⟨y27, c27, v27⟩
            · have D27 : DJm M27 t f z p27 0 e := q27
              refine wp_istore (loc' := [(2, 69), (0, (t : Int)), (0, wh), (0, w17), (0, w25), (0, w27)]) dX8_read_125 (Nat.le_of_ble_eq_true rfl) rfl ?_
              refine wp_aload_n dX8_read_127 rfl rfl ?_
              refine wp_get 69 rfl fl_RX8_181 rfl ⟨by omega, by omega⟩ dX8_read_128 rfl (v := 1) (D27.2.2.1) ?_
              refine wp_if_ne (tgt := 145) dX8_read_131 (by decide) (fun _ => ?_) (fun h => absurd h (by decide))
              refine wp_iload_n dX8_read_145 rfl rfl ?_
              refine wp_if_ne (tgt := 153) dX8_read_146 (by decide) (fun h146 => ?_) (fun h146 => ?_)
              · refine wp_iload_n dX8_read_153 rfl rfl ?_
                refine wp_iconst dX8_read_154 (by decide) ?_
                refine wp_icmp_ne (tgt := 163) dX8_read_155 (by decide) (fun h155 => ?_) (fun h155 => ?_)
                · refine wp_iload dX8_read_163 rfl ?_
                  refine wp_iret rfl dX8_read_165 ?_
                  have FF : Fr VMq M M27 := H1.tr ((F27).mono VMr.q)
                  have ee : txtP f z = .inl p27 := by unfold txtP; rw [r17]; dsimp only; rw [r25]; dsimp only; rw [r27]
                  exact kf _ _ _ ee FF (D27).2.2.1 (D27).2.2.2.1
                · refine wp_iload dX8_read_158 rfl ?_
                  refine wp_goto (tgt := 165) dX8_read_160 (by decide) ?_
                  refine wp_iret rfl dX8_read_165 ?_
                  have FF : Fr VMq M M27 := H1.tr ((F27).mono VMr.q)
                  have ee : txtP f z = .inl p27 := by unfold txtP; rw [r17]; dsimp only; rw [r25]; dsimp only; rw [r27]
                  exact kf _ _ _ ee FF (D27).2.2.1 (D27).2.2.2.1
              · refine wp_iload_n dX8_read_149 rfl rfl ?_
                refine wp_goto (tgt := 165) dX8_read_150 (by decide) ?_
                refine wp_iret rfl dX8_read_165 ?_
                have FF : Fr VMq M M27 := H1.tr ((F27).mono VMr.q)
                have ee : txtP f z = .inl p27 := by unfold txtP; rw [r17]; dsimp only; rw [r25]; dsimp only; rw [r27]
                exact kf _ _ _ ee FF (D27).2.2.1 (D27).2.2.2.1
            · obtain ⟨J27, e27⟩ : RJm M27 t f z y27 0 e ∧ w27 = v27 e := q27
              obtain ⟨b27, B27, _⟩ : y25 + c27.length ≤ y27 ∧ (y27 : Int) ≤ z ∧ _ := b27
              refine wp_istore (loc' := [(2, 69), (0, (t : Int)), (0, wh), (0, w17), (0, w25), (0, w27)]) dX8_read_125 (Nat.le_of_ble_eq_true rfl) rfl ?_
              refine wp_aload_n dX8_read_127 rfl rfl ?_
              refine wp_get 69 rfl fl_RX8_181 rfl ⟨by omega, by omega⟩ dX8_read_128 rfl (v := 0) (J27.2.2.2.1) ?_
              refine wp_if_ne (tgt := 145) dX8_read_131 (by decide) (fun h => absurd h (by decide)) (fun _ => ?_)
              refine wp_aload_n dX8_read_134 rfl rfl ?_
              refine wp_get 69 rfl fl_RX8_164 rfl ⟨by omega, by omega⟩ dX8_read_135 rfl (v := (M27 69 22)) (rfl) ?_
              refine wp_if_eq (tgt := 145) dX8_read_138 (by decide) (fun h138 => ?_) (fun h138 => ?_)
              · refine wp_iload_n dX8_read_145 rfl rfl ?_
                refine wp_if_ne (tgt := 153) dX8_read_146 (by decide) (fun h146 => ?_) (fun h146 => ?_)
                · refine wp_iload_n dX8_read_153 rfl rfl ?_
                  refine wp_iconst dX8_read_154 (by decide) ?_
                  refine wp_icmp_ne (tgt := 163) dX8_read_155 (by decide) (fun h155 => ?_) (fun h155 => ?_)
                  · refine wp_iload dX8_read_163 rfl ?_
                    refine wp_iret rfl dX8_read_165 ?_
                    have FF : Fr VMq M M27 := H1.tr ((F27).mono VMr.q)
                    have et := (J27).2.1.2.2.end_.mp h138
                    have ee : txtP f z = .inr ((c17, v17), (c25, v25), (c27, v27)) := by unfold txtP; rw [r17]; dsimp only; rw [r25]; dsimp only; rw [r27]; exact if_pos et
                    have q := kt _ _ ee FF (J27).2.2.2.1
                    rw [if_neg h146, if_neg h155] at q
                    rw [e27]
                    exact q
                  · refine wp_iload dX8_read_158 rfl ?_
                    refine wp_goto (tgt := 165) dX8_read_160 (by decide) ?_
                    refine wp_iret rfl dX8_read_165 ?_
                    have FF : Fr VMq M M27 := H1.tr ((F27).mono VMr.q)
                    have et := (J27).2.1.2.2.end_.mp h138
                    have ee : txtP f z = .inr ((c17, v17), (c25, v25), (c27, v27)) := by unfold txtP; rw [r17]; dsimp only; rw [r25]; dsimp only; rw [r27]; exact if_pos et
                    have q := kt _ _ ee FF (J27).2.2.2.1
                    rw [if_neg h146, if_pos h155] at q
                    rw [e25]
                    exact q
                · refine wp_iload_n dX8_read_149 rfl rfl ?_
                  refine wp_goto (tgt := 165) dX8_read_150 (by decide) ?_
                  refine wp_iret rfl dX8_read_165 ?_
                  have FF : Fr VMq M M27 := H1.tr ((F27).mono VMr.q)
                  have et := (J27).2.1.2.2.end_.mp h138
                  have ee : txtP f z = .inr ((c17, v17), (c25, v25), (c27, v27)) := by unfold txtP; rw [r17]; dsimp only; rw [r25]; dsimp only; rw [r27]; exact if_pos et
                  have q := kt _ _ ee FF (J27).2.2.2.1
                  rw [if_pos h146] at q
                  rw [e17]
                  exact q
              · refine wp_aload_n dX8_read_141 rfl rfl ?_
                refine wp_callV0 (d' := d - 1) cv_RX8_194 69 rfl [] [] rfl rfl (Or.inl ⟨_, _, rfl, by decide, rfl, by omega, by omega⟩) (by omega) (Nat.le_of_ble_eq_true rfl) dX8_read_142 rfl (Nat.le_of_ble_eq_true rfl) (by omega) (loc1 := [(2, 69)]) rfl ?_
                refine sp_failm hn J27 (fun M28 D28 f28 => ?_)
                have F28 := (F27).tr f28
                refine wp_iload_n dX8_read_145 rfl rfl ?_
                refine wp_if_ne (tgt := 153) dX8_read_146 (by decide) (fun h146 => ?_) (fun h146 => ?_)
                · refine wp_iload_n dX8_read_153 rfl rfl ?_
                  refine wp_iconst dX8_read_154 (by decide) ?_
                  refine wp_icmp_ne (tgt := 163) dX8_read_155 (by decide) (fun h155 => ?_) (fun h155 => ?_)
                  · refine wp_iload dX8_read_163 rfl ?_
                    refine wp_iret rfl dX8_read_165 ?_
                    have FF : Fr VMq M M28 := H1.tr ((F28).mono VMr.q)
                    have et : lxT f z y27 ≠ 0 := fun h => h138 ((J27).2.1.2.2.end_.mpr h)
                    have ee : txtP f z = .inl (lxA f z y27) := by unfold txtP; rw [r17]; dsimp only; rw [r25]; dsimp only; rw [r27]; exact if_neg et
                    exact kf _ _ _ ee FF (D28).2.2.1 (D28).2.2.2.1
                  · refine wp_iload dX8_read_158 rfl ?_
                    refine wp_goto (tgt := 165) dX8_read_160 (by decide) ?_
                    refine wp_iret rfl dX8_read_165 ?_
                    have FF : Fr VMq M M28 := H1.tr ((F28).mono VMr.q)
                    have et : lxT f z y27 ≠ 0 := fun h => h138 ((J27).2.1.2.2.end_.mpr h)
                    have ee : txtP f z = .inl (lxA f z y27) := by unfold txtP; rw [r17]; dsimp only; rw [r25]; dsimp only; rw [r27]; exact if_neg et
                    exact kf _ _ _ ee FF (D28).2.2.1 (D28).2.2.2.1
                · refine wp_iload_n dX8_read_149 rfl rfl ?_
                  refine wp_goto (tgt := 165) dX8_read_150 (by decide) ?_
                  refine wp_iret rfl dX8_read_165 ?_
                  have FF : Fr VMq M M28 := H1.tr ((F28).mono VMr.q)
                  have et : lxT f z y27 ≠ 0 := fun h => h138 ((J27).2.1.2.2.end_.mpr h)
                  have ee : txtP f z = .inl (lxA f z y27) := by unfold txtP; rw [r17]; dsimp only; rw [r25]; dsimp only; rw [r27]; exact if_neg et
                  exact kf _ _ _ ee FF (D28).2.2.1 (D28).2.2.2.1
          · refine wp_callV0 (d' := d - 1) cv_RX8_345 69 rfl [(0, 0)] [] rfl rfl (Or.inl ⟨_, _, rfl, by decide, rfl, by omega, by omega⟩) (by omega) (Nat.le_of_ble_eq_true rfl) dX8_read_122 rfl (Nat.le_of_ble_eq_true rfl) (by omega) (loc1 := [(2, 69), (0, 0), (9, 0)]) rfl ?_
            refine sp_part0 hn (by omega) hB J25 B25 (key := 258) (by decide) t26 (fun M29 w29 q29 => ?_)
            obtain ⟨f29, q29⟩ := q29
            have F29 := (F25).tr f29
            have b29 := PQ_prt (f := f) (z := z) (key := 258) (by decide) _ B25
            generalize r29 : prtP f z 258 y25 = u29 at q29 b29
            rcases u29 with p29 | ⟨y29, c29, v29⟩
            · have D29 : DJm M29 t f z p29 0 e := q29
              refine wp_istore (loc' := [(2, 69), (0, (t : Int)), (0, wh), (0, w17), (0, w25), (0, w29)]) dX8_read_125 (Nat.le_of_ble_eq_true rfl) rfl ?_
              refine wp_aload_n dX8_read_127 rfl rfl ?_
              refine wp_get 69 rfl fl_RX8_181 rfl ⟨by omega, by omega⟩ dX8_read_128 rfl (v := 1) (D29.2.2.1) ?_
              refine wp_if_ne (tgt := 145) dX8_read_131 (by decide) (fun _ => ?_) (fun h => absurd h (by decide))
              refine wp_iload_n dX8_read_145 rfl rfl ?_
              refine wp_if_ne (tgt := 153) dX8_read_146 (by decide) (fun h146 => ?_) (fun h146 => ?_)
              · refine wp_iload_n dX8_read_153 rfl rfl ?_
                refine wp_iconst dX8_read_154 (by decide) ?_
                refine wp_icmp_ne (tgt := 163) dX8_read_155 (by decide) (fun h155 => ?_) (fun h155 => ?_)
                · refine wp_iload dX8_read_163 rfl ?_
                  refine wp_iret rfl dX8_read_165 ?_
                  have FF : Fr VMq M M29 := H1.tr ((F29).mono VMr.q)
                  have ee : txtP f z = .inl p29 := by unfold txtP; rw [r17]; dsimp only; rw [r25]; dsimp only; rw [r29]
                  exact kf _ _ _ ee FF (D29).2.2.1 (D29).2.2.2.1
                · refine wp_iload dX8_read_158 rfl ?_
                  refine wp_goto (tgt := 165) dX8_read_160 (by decide) ?_
                  refine wp_iret rfl dX8_read_165 ?_
                  have FF : Fr VMq M M29 := H1.tr ((F29).mono VMr.q)
                  have ee : txtP f z = .inl p29 := by unfold txtP; rw [r17]; dsimp only; rw [r25]; dsimp only; rw [r29]
                  exact kf _ _ _ ee FF (D29).2.2.1 (D29).2.2.2.1
              · refine wp_iload_n dX8_read_149 rfl rfl ?_
                refine wp_goto (tgt := 165) dX8_read_150 (by decide) ?_
                refine wp_iret rfl dX8_read_165 ?_
                have FF : Fr VMq M M29 := H1.tr ((F29).mono VMr.q)
                have ee : txtP f z = .inl p29 := by unfold txtP; rw [r17]; dsimp only; rw [r25]; dsimp only; rw [r29]
                exact kf _ _ _ ee FF (D29).2.2.1 (D29).2.2.2.1
            · obtain ⟨J29, e29⟩ : RJm M29 t f z y29 0 e ∧ w29 = v29 e := q29
              obtain ⟨b29, B29, _⟩ : y25 + c29.length ≤ y29 ∧ (y29 : Int) ≤ z ∧ _ := b29
              refine wp_istore (loc' := [(2, 69), (0, (t : Int)), (0, wh), (0, w17), (0, w25), (0, w29)]) dX8_read_125 (Nat.le_of_ble_eq_true rfl) rfl ?_
              refine wp_aload_n dX8_read_127 rfl rfl ?_
              refine wp_get 69 rfl fl_RX8_181 rfl ⟨by omega, by omega⟩ dX8_read_128 rfl (v := 0) (J29.2.2.2.1) ?_
              refine wp_if_ne (tgt := 145) dX8_read_131 (by decide) (fun h => absurd h (by decide)) (fun _ => ?_)
              refine wp_aload_n dX8_read_134 rfl rfl ?_
              refine wp_get 69 rfl fl_RX8_164 rfl ⟨by omega, by omega⟩ dX8_read_135 rfl (v := (M29 69 22)) (rfl) ?_
              refine wp_if_eq (tgt := 145) dX8_read_138 (by decide) (fun h138 => ?_) (fun h138 => ?_)
              · refine wp_iload_n dX8_read_145 rfl rfl ?_
                refine wp_if_ne (tgt := 153) dX8_read_146 (by decide) (fun h146 => ?_) (fun h146 => ?_)
                · refine wp_iload_n dX8_read_153 rfl rfl ?_
                  refine wp_iconst dX8_read_154 (by decide) ?_
                  refine wp_icmp_ne (tgt := 163) dX8_read_155 (by decide) (fun h155 => ?_) (fun h155 => ?_)
                  · refine wp_iload dX8_read_163 rfl ?_
                    refine wp_iret rfl dX8_read_165 ?_
                    have FF : Fr VMq M M29 := H1.tr ((F29).mono VMr.q)
                    have et := (J29).2.1.2.2.end_.mp h138
                    have ee : txtP f z = .inr ((c17, v17), (c25, v25), (c29, v29)) := by unfold txtP; rw [r17]; dsimp only; rw [r25]; dsimp only; rw [r29]; exact if_pos et
                    have q := kt _ _ ee FF (J29).2.2.2.1
                    rw [if_neg h146, if_neg h155] at q
                    rw [e29]
                    exact q
                  · refine wp_iload dX8_read_158 rfl ?_
                    refine wp_goto (tgt := 165) dX8_read_160 (by decide) ?_
                    refine wp_iret rfl dX8_read_165 ?_
                    have FF : Fr VMq M M29 := H1.tr ((F29).mono VMr.q)
                    have et := (J29).2.1.2.2.end_.mp h138
                    have ee : txtP f z = .inr ((c17, v17), (c25, v25), (c29, v29)) := by unfold txtP; rw [r17]; dsimp only; rw [r25]; dsimp only; rw [r29]; exact if_pos et
                    have q := kt _ _ ee FF (J29).2.2.2.1
                    rw [if_neg h146, if_pos h155] at q
                    rw [e25]
                    exact q
                · refine wp_iload_n dX8_read_149 rfl rfl ?_
                  refine wp_goto (tgt := 165) dX8_read_150 (by decide) ?_
                  refine wp_iret rfl dX8_read_165 ?_
                  have FF : Fr VMq M M29 := H1.tr ((F29).mono VMr.q)
                  have et := (J29).2.1.2.2.end_.mp h138
                  have ee : txtP f z = .inr ((c17, v17), (c25, v25), (c29, v29)) := by unfold txtP; rw [r17]; dsimp only; rw [r25]; dsimp only; rw [r29]; exact if_pos et
                  have q := kt _ _ ee FF (J29).2.2.2.1
                  rw [if_pos h146] at q
                  rw [e17]
                  exact q
              · refine wp_aload_n dX8_read_141 rfl rfl ?_
                refine wp_callV0 (d' := d - 1) cv_RX8_194 69 rfl [] [] rfl rfl (Or.inl ⟨_, _, rfl, by decide, rfl, by omega, by omega⟩) (by omega) (Nat.le_of_ble_eq_true rfl) dX8_read_142 rfl (Nat.le_of_ble_eq_true rfl) (by omega) (loc1 := [(2, 69)]) rfl ?_
                refine sp_failm hn J29 (fun M30 D30 f30 => ?_)
                have F30 := (F29).tr f30
                refine wp_iload_n dX8_read_145 rfl rfl ?_
                refine wp_if_ne (tgt := 153) dX8_read_146 (by decide) (fun h146 => ?_) (fun h146 => ?_)
                · refine wp_iload_n dX8_read_153 rfl rfl ?_
                  refine wp_iconst dX8_read_154 (by decide) ?_
                  refine wp_icmp_ne (tgt := 163) dX8_read_155 (by decide) (fun h155 => ?_) (fun h155 => ?_)
                  · refine wp_iload dX8_read_163 rfl ?_
                    refine wp_iret rfl dX8_read_165 ?_
                    have FF : Fr VMq M M30 := H1.tr ((F30).mono VMr.q)
                    have et : lxT f z y29 ≠ 0 := fun h => h138 ((J29).2.1.2.2.end_.mpr h)
                    have ee : txtP f z = .inl (lxA f z y29) := by unfold txtP; rw [r17]; dsimp only; rw [r25]; dsimp only; rw [r29]; exact if_neg et
                    exact kf _ _ _ ee FF (D30).2.2.1 (D30).2.2.2.1
                  · refine wp_iload dX8_read_158 rfl ?_
                    refine wp_goto (tgt := 165) dX8_read_160 (by decide) ?_
                    refine wp_iret rfl dX8_read_165 ?_
                    have FF : Fr VMq M M30 := H1.tr ((F30).mono VMr.q)
                    have et : lxT f z y29 ≠ 0 := fun h => h138 ((J29).2.1.2.2.end_.mpr h)
                    have ee : txtP f z = .inl (lxA f z y29) := by unfold txtP; rw [r17]; dsimp only; rw [r25]; dsimp only; rw [r29]; exact if_neg et
                    exact kf _ _ _ ee FF (D30).2.2.1 (D30).2.2.2.1
                · refine wp_iload_n dX8_read_149 rfl rfl ?_
                  refine wp_goto (tgt := 165) dX8_read_150 (by decide) ?_
                  refine wp_iret rfl dX8_read_165 ?_
                  have FF : Fr VMq M M30 := H1.tr ((F30).mono VMr.q)
                  have et : lxT f z y29 ≠ 0 := fun h => h138 ((J29).2.1.2.2.end_.mpr h)
                  have ee : txtP f z = .inl (lxA f z y29) := by unfold txtP; rw [r17]; dsimp only; rw [r25]; dsimp only; rw [r29]; exact if_neg et
                  exact kf _ _ _ ee FF (D30).2.2.1 (D30).2.2.2.1
def V70 (s i j : Nat) : Prop := i = 70 ∧ 160 * s ≤ j ∧ j < 160 * s + 160
theorem V70.sr {s : Nat} {M M' : Mm} (h : Fr (V70 s) M M') (hR : SR M) : SR M' := hR.of (fun q hq => h _ _ (by
  have : ∀ q ∈ srL, q.1 ≠ 70 := by decide +kernel
  have := this q hq
  unfold V70
  omega))
def V7i (s a i j : Nat) : Prop := i = 70 ∧ 160 * s + a ≤ j ∧ j < 160 * s + 160
theorem V7i.v {s a : Nat} : ∀ i j, V7i s a i j → V70 s i j := by
  intro i j h
  unfold V7i at h
  unfold V70
  omega
theorem V7i.n {s a : Nat} : ∀ i j, V7i s (a + 1) i j → V7i s a i j := by
  intro i j h
  unfold V7i at h ⊢
  omega
set_option maxRecDepth 20000 in
set_option maxHeartbeats 4000000 in
theorem lm_tcopy  {l : Launch} {g : Gw} {d n : Nat} (hn : 90 ≤ n) {s N : Nat} (hs : s < 6) (hN : N ≤ 160) : ∀ (m i : Nat) (M : Mm) (Q : Option Wd → Mm → Prop), i + m = N → SR M → M 69 3 = (s : Int) → M 69 6 = (N : Int) → (∀ M' u, Fr (V7i s i) M M' → (∀ j, i ≤ j → j < N → M' 70 (160 * s + j) = M 72 j) → Wp l g d 0 0 n m_X8_text 49 [] [(2, 69), u] M' Q) → Wp l g d 0 0 n m_X8_text 14 [] [(2, 69), (0, (i : Int))] M Q := by
  intro m
  induction m with
  | zero =>
    intro i M Q hi hR h3 h6 k
    refine wp_iload_n dX8_text_14 rfl rfl ?_
    refine wp_aload_n dX8_text_15 rfl rfl ?_
    refine wp_get 69 rfl fl_RX8_146 rfl ⟨by omega, by omega⟩ dX8_text_16 rfl (v := (N : Int)) (h6) ?_
    refine wp_icmp_ge (tgt := 49) dX8_text_19 (by decide) (fun _ => ?_) (fun h => absurd h (by omega))
    exact k M _ Fr.rf (fun j a b => by omega)
  | succ m ih =>
    intro i M Q hi hR h3 h6 k
    refine wp_iload_n dX8_text_14 rfl rfl ?_
    refine wp_aload_n dX8_text_15 rfl rfl ?_
    refine wp_get 69 rfl fl_RX8_146 rfl ⟨by omega, by omega⟩ dX8_text_16 rfl (v := (N : Int)) (h6) ?_
    refine wp_icmp_ge (tgt := 49) dX8_text_19 (by decide) (fun h => absurd h (by omega)) (fun _ => ?_)
    refine wp_aload_n dX8_text_22 rfl rfl ?_
    refine wp_get 69 rfl fl_RX8_13 rfl ⟨by omega, by omega⟩ dX8_text_23 rfl (v := 70) (sr_69_1 (M := M) hR) ?_
    refine wp_sipush dX8_text_26 (by decide) (by decide) ?_
    refine wp_aload_n dX8_text_29 rfl rfl ?_
    refine wp_get 69 rfl fl_RX8_85 rfl ⟨by omega, by omega⟩ dX8_text_30 rfl (v := (s : Int)) (h3) ?_
    refine wp_imul dX8_text_33 (by omega) ?_
    refine wp_iload_n dX8_text_34 rfl rfl ?_
    refine wp_iadd dX8_text_35 (by omega) ?_
    refine wp_aload_n dX8_text_36 rfl rfl ?_
    refine wp_get 69 rfl fl_RX8_20 rfl ⟨by omega, by omega⟩ dX8_text_37 rfl (v := 72) (sr_69_5 (M := M) hR) ?_
    refine wp_iload_n dX8_text_40 rfl rfl ?_
    refine wp_iald 72 rfl rfl ⟨by omega, by omega⟩ ⟨by omega, by omega⟩ dX8_text_41 (v := (M 72 i)) (rfl) ?_
    refine wp_iast 70 rfl rfl ⟨by omega, by omega⟩ ⟨by omega, by omega⟩ dX8_text_42 (jn := (160 * s + i)) (by omega) ?_
    refine wp_iinc (loc' := [(2, 69), (0, ((i : Int) + 1))]) dX8_text_43 rfl (by omega) rfl ?_
    refine wp_goto (tgt := 14) dX8_text_46 (by decide) ?_
    have f1 : Fr (V7i s i) M (mu M 70 (160 * s + i) (M 72 i)) := Fr.rf.put ⟨rfl, by omega, by omega⟩
    refine ih (i + 1) _ Q (by omega) (V70.sr (f1.mono V7i.v) hR) (show _ from h3) (show _ from h6) (fun M2 u2 f2 a2 => k M2 u2 (f1.tr (f2.mono V7i.n)) (fun j a b => ?_))
    by_cases q : j = i
    · subst q
      exact (f2 70 _ (by unfold V7i; omega)).trans ((mu_self _ _ _ _).trans rfl)
    · exact (a2 j (by omega) b).trans rfl
def VTm (s i j : Nat) : Prop := V70 s i j ∨ (i = 71 ∧ j = s) ∨ (i = 69 ∧ (j = 3 ∨ j = 6 ∨ (19 ≤ j ∧ j ≤ 27)))
theorem VTm.sr {s : Nat} {M M' : Mm} (h : Fr (VTm s) M M') (hR : SR M) : SR M' := hR.of (fun q hq => h _ _ (by
  have : ∀ q ∈ srL, q.1 ≠ 70 ∧ q.1 ≠ 71 ∧ ¬ (q.1 = 69 ∧ (q.2.1 = 3 ∨ q.2.1 = 6 ∨ (19 ≤ q.2.1 ∧ q.2.1 ≤ 27))) := by decide +kernel
  have := this q hq
  unfold VTm V70
  omega))
theorem VMq.t {s : Nat} : ∀ i j, VMq i j → VTm s i j := by
  intro i j h
  unfold VMq at h
  unfold VTm
  omega
def envM (M : Mm) : Int → Int := fun c => M 69 (12 + -c).toNat
set_option maxRecDepth 20000 in
set_option maxHeartbeats 4000000 in
theorem cm_text {l : Launch} {g : Gw} {d n : Nat} {M : Mm} {Q : Option Wd → Mm → Prop} (hn : 90 ≤ n) (hd : 65 ≤ d) (hR : SR M) {s N : Nat} (h3 : M 69 3 = (s : Int)) (hs6 : s ≤ 6) (h69 : M 69 6 = (N : Int)) (hN : N ≤ 160) (hB : BT (M 72) (N : Int)) (kF : s = 6 → Q (some (0, -4)) M) (kf : s < 6 → ∀ (p : Nat) M', txtP (M 72) (N : Int) = .inl p → Fr (VTm s) M M' → M' 69 6 = 0 → M' 69 3 = (s : Int) → Q (some (0, wrap (-100 - (p : Int)))) M') (kt : s < 6 → ∀ q M', txtP (M 72) (N : Int) = .inr q → Fr (VTm s) M M' → M' 69 6 = 0 → M' 69 3 = (s : Int) + 1 → TXM M' s (M 72) (N : Int) → Q (some (0, (s : Int))) M') : Wp l g d 0 0 n m_X8_text 0 [] [(2, 69), (9, 0)] M Q := by
  refine wp_aload_n dX8_text_0 rfl rfl ?_
  refine wp_get 69 rfl fl_RX8_85 rfl ⟨by omega, by omega⟩ dX8_text_1 rfl (v := (s : Int)) (h3) ?_
  refine wp_bipush dX8_text_4 (by decide) (by decide) ?_
  refine wp_icmp_ne (tgt := 12) dX8_text_6 (by decide) (fun h6 => ?_) (fun h6 => ?_)
  · refine wp_iconst dX8_text_12 (by decide) ?_
    refine wp_istore_n (loc' := [(2, 69), (0, 0)]) dX8_text_13 rfl (Nat.le_of_ble_eq_true rfl) rfl ?_
    refine lm_tcopy hn (by omega) hN N 0 M Q (by omega) hR h3 h69 (fun M1 u f1 a1 => ?_)
    have hR1 := V70.sr (f1.mono V7i.v) hR
    have s1 : M1 69 3 = (s : Int) := (f1 69 3 (by unfold V7i; omega)).trans h3
    have n1 : M1 69 6 = (N : Int) := (f1 69 6 (by unfold V7i; omega)).trans h69
    refine wp_aload_n dX8_text_49 rfl rfl ?_
    refine wp_get 69 rfl fl_RX8_17 rfl ⟨by omega, by omega⟩ dX8_text_50 rfl (v := 71) (sr_69_2 (M := M1) hR1) ?_
    refine wp_aload_n dX8_text_53 rfl rfl ?_
    refine wp_get 69 rfl fl_RX8_85 rfl ⟨by omega, by omega⟩ dX8_text_54 rfl (v := (s : Int)) (s1) ?_
    refine wp_aload_n dX8_text_57 rfl rfl ?_
    refine wp_get 69 rfl fl_RX8_146 rfl ⟨by omega, by omega⟩ dX8_text_58 rfl (v := (N : Int)) (n1) ?_
    refine wp_iast 71 rfl rfl ⟨by omega, by omega⟩ ⟨by omega, by omega⟩ dX8_text_61 (jn := s) rfl ?_
    refine wp_aload_n dX8_text_62 rfl rfl ?_
    refine wp_iconst dX8_text_63 (by decide) ?_
    refine wp_puti 69 rfl fl_RX8_146 rfl ⟨by omega, by omega⟩ dX8_text_64 rfl rfl ?_
    refine wp_aload_n dX8_text_67 rfl rfl ?_
    refine wp_aload_n dX8_text_68 rfl rfl ?_
    refine wp_get 69 rfl fl_RX8_85 rfl ⟨by omega, by omega⟩ dX8_text_69 rfl (v := (s : Int)) (s1) ?_
    refine wp_iconst dX8_text_72 (by decide) ?_
    refine wp_callV0 (d' := d - 1) cv_RX8_349 69 rfl [(0, (s : Int)), (0, 0)] [] rfl rfl (Or.inl ⟨_, _, rfl, by decide, rfl, by omega, by omega⟩) (by omega) (Nat.le_of_ble_eq_true rfl) dX8_text_73 rfl (Nat.le_of_ble_eq_true rfl) (by omega) (loc1 := [(2, 69), (0, (s : Int)), (0, 0), (9, 0), (9, 0), (9, 0)]) rfl ?_
    have F1 : Fr (VTm s) M M1 := f1.mono (fun i j h => Or.inl (V7i.v i j h))
    have F2 : Fr (VTm s) M (mu (mu M1 71 s (N : Int)) 69 6 0) := (F1.put (Or.inr (Or.inl ⟨rfl, rfl⟩))).put (Or.inr (Or.inr ⟨rfl, by omega⟩))
    have hX2 : TXM (mu (mu M1 71 s (N : Int)) 69 6 0) s (M 72) (N : Int) := ⟨(mu_ne _ _ _ (by omega) _).trans (mu_self _ _ _ _), by omega, by omega, fun i hi => a1 i (by omega) (by omega)⟩
    have z2 : (mu (mu M1 71 s (N : Int)) 69 6 0) 69 6 = 0 := rfl
    have s2 : (mu (mu M1 71 s (N : Int)) 69 6 0) 69 3 = (s : Int) := s1
    have hE2 : ENm (mu (mu M1 71 s (N : Int)) 69 6 0) (envM (mu (mu M1 71 s (N : Int)) 69 6 0)) := ⟨rfl, rfl, rfl, rfl, rfl, rfl⟩
    generalize (mu (mu M1 71 s (N : Int)) 69 6 0) = N2 at F2 hX2 z2 s2 hE2 ⊢
    have hR2 := VTm.sr F2 hR
    refine sp_read hn (by omega) hR2 (by omega) hX2 hB hE2 0 (fun p M3 v ep f3 b3 p3 => ?_) (fun q M3 eq f3 b3 => ?_)
    · have hR3 := VMq.sr f3 hR2
      refine wp_istore_n (loc' := [(2, 69), (0, v)]) dX8_text_76 rfl (Nat.le_of_ble_eq_true rfl) rfl ?_
      refine wp_aload_n dX8_text_77 rfl rfl ?_
      refine wp_get 69 rfl fl_RX8_181 rfl ⟨by omega, by omega⟩ dX8_text_78 rfl (v := 1) (b3) ?_
      refine wp_if_eq (tgt := 92) dX8_text_81 (by decide) (fun h => absurd h (by decide)) (fun _ => ?_)
      refine wp_bipush dX8_text_84 (by decide) (by decide) ?_
      refine wp_aload_n dX8_text_86 rfl rfl ?_
      refine wp_get 69 rfl fl_RX8_185 rfl ⟨by omega, by omega⟩ dX8_text_87 rfl (v := (p : Int)) (p3) ?_
      refine wp_isubw dX8_text_90 ?_
      refine wp_iret rfl dX8_text_91 ?_
      have z3 : M3 69 6 = 0 := (f3 69 6 (by unfold VMq; omega)).trans z2
      exact kf (by omega) p M3 ep (F2.tr (f3.mono VMq.t)) z3 ((f3 69 3 (by unfold VMq; omega)).trans s2)
    · have hR3 := VMq.sr f3 hR2
      refine wp_istore_n (loc' := [(2, 69), (0, (if (0 : Int) = 0 then q.1.2 (envM N2) else if (0 : Int) = 1 then q.2.1.2 (envM N2) else q.2.2.2 (envM N2)))]) dX8_text_76 rfl (Nat.le_of_ble_eq_true rfl) rfl ?_
      refine wp_aload_n dX8_text_77 rfl rfl ?_
      refine wp_get 69 rfl fl_RX8_181 rfl ⟨by omega, by omega⟩ dX8_text_78 rfl (v := 0) (b3) ?_
      refine wp_if_eq (tgt := 92) dX8_text_81 (by decide) (fun _ => ?_) (fun h => absurd h (by decide))
      refine wp_aload_n dX8_text_92 rfl rfl ?_
      refine wp_dup dX8_text_93 (Or.inr rfl) ?_
      refine wp_get 69 rfl fl_RX8_85 rfl ⟨by omega, by omega⟩ dX8_text_94 rfl (v := (s : Int)) ((f3 69 3 (by unfold VMq; omega)).trans s2) ?_
      refine wp_iconst dX8_text_97 (by decide) ?_
      refine wp_iadd dX8_text_98 (by omega) ?_
      refine wp_puti 69 rfl fl_RX8_85 rfl ⟨by omega, by omega⟩ dX8_text_99 rfl rfl ?_
      refine wp_aload_n dX8_text_102 rfl rfl ?_
      refine wp_get 69 rfl fl_RX8_85 rfl ⟨by omega, by omega⟩ dX8_text_103 rfl (v := ((s : Int) + 1)) (rfl) ?_
      refine wp_iconst dX8_text_106 (by decide) ?_
      refine wp_isub dX8_text_107 (by omega) ?_
      refine wp_iret rfl dX8_text_108 ?_
      have z3 : M3 69 6 = 0 := (f3 69 6 (by unfold VMq; omega)).trans z2
      have hX3 : TXM M3 s (M 72) (N : Int) := ⟨(f3 71 s (by unfold VMq; omega)).trans hX2.1, by omega, by omega, fun i hi => (f3 70 _ (by unfold VMq; omega)).trans (hX2.2.2.2 i hi)⟩
      rw [show ((s : Int) + 1) - 1 = (s : Int) by omega]
      exact kt (by omega) q _ eq ((F2.tr (f3.mono VMq.t)).put (Or.inr (Or.inr ⟨rfl, by omega⟩))) z3 rfl hX3
  · refine wp_bipush dX8_text_9 (by decide) (by decide) ?_
    refine wp_iret rfl dX8_text_11 ?_
    exact kF (by omega)
