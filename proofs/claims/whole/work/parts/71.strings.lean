/-! ===== String constants: length, charAt ===== -/
set_option maxRecDepth 20000 in
set_option maxHeartbeats 4000000 in
theorem sp_slen_0 {l : Launch} {g : Gw} {d n : Nat} {M : Mm} {Q : Option Wd → Mm → Prop} (hd : 2 ≤ d) (kk : Q (some (0, 45)) M) : Wp l g d 0 0 n m_J0_length_8abf5 0 [] [(2, 1000)] M Q := by
  refine wp_aload_n dJ0_length_8abf5_0 rfl rfl ?_
  refine wp_strV 0 rfl (by decide) wl_RJ0_9 dJ0_length_8abf5_1 ?_
  refine wp_alenK 0 rfl (by decide) dJ0_length_8abf5_4 ?_
  change Wp _ _ _ _ _ _ _ _ ((0, 45) :: _) _ _ _
  refine wp_aload_n dJ0_length_8abf5_5 rfl rfl ?_
  refine wp_callV0 (d' := d - 1) cv_RJ0_335 1000 rfl [] [(0, 45)] rfl rfl (Or.inr ⟨by decide, by decide, rfl⟩) (by omega) (Nat.le_of_ble_eq_true rfl) dJ0_length_8abf5_6 rfl (Nat.le_of_ble_eq_true rfl) (by omega) (loc1 := [(2, 1000)]) rfl ?_
  refine wp_getsC wl_RJ0_38 dJ0_coder_7d493_0 ?_
  refine wp_if_eq (tgt := 13) dJ0_coder_7d493_3 (by decide) (fun h => absurd h (by decide)) (fun _ => ?_)
  refine wp_aload_n dJ0_coder_7d493_6 rfl rfl ?_
  refine wp_strC 0 rfl (by decide) wl_RJ0_15 dJ0_coder_7d493_7 ?_
  refine wp_goto (tgt := 14) dJ0_coder_7d493_10 (by decide) ?_
  refine wp_cret rfl (by decide) dJ0_coder_7d493_14 ?_
  refine wp_ishr dJ0_length_8abf5_9 ?_
  refine wp_iret rfl dJ0_length_8abf5_10 ?_
  rw [show (shr 45 0) = 45 by decide]
  exact kk
set_option maxRecDepth 20000 in
set_option maxHeartbeats 4000000 in
theorem sp_slen_1 {l : Launch} {g : Gw} {d n : Nat} {M : Mm} {Q : Option Wd → Mm → Prop} (hd : 2 ≤ d) (kk : Q (some (0, 5)) M) : Wp l g d 0 0 n m_J0_length_8abf5 0 [] [(2, 1001)] M Q := by
  refine wp_aload_n dJ0_length_8abf5_0 rfl rfl ?_
  refine wp_strV 1 rfl (by decide) wl_RJ0_9 dJ0_length_8abf5_1 ?_
  refine wp_alenK 1 rfl (by decide) dJ0_length_8abf5_4 ?_
  change Wp _ _ _ _ _ _ _ _ ((0, 5) :: _) _ _ _
  refine wp_aload_n dJ0_length_8abf5_5 rfl rfl ?_
  refine wp_callV0 (d' := d - 1) cv_RJ0_335 1001 rfl [] [(0, 5)] rfl rfl (Or.inr ⟨by decide, by decide, rfl⟩) (by omega) (Nat.le_of_ble_eq_true rfl) dJ0_length_8abf5_6 rfl (Nat.le_of_ble_eq_true rfl) (by omega) (loc1 := [(2, 1001)]) rfl ?_
  refine wp_getsC wl_RJ0_38 dJ0_coder_7d493_0 ?_
  refine wp_if_eq (tgt := 13) dJ0_coder_7d493_3 (by decide) (fun h => absurd h (by decide)) (fun _ => ?_)
  refine wp_aload_n dJ0_coder_7d493_6 rfl rfl ?_
  refine wp_strC 1 rfl (by decide) wl_RJ0_15 dJ0_coder_7d493_7 ?_
  refine wp_goto (tgt := 14) dJ0_coder_7d493_10 (by decide) ?_
  refine wp_cret rfl (by decide) dJ0_coder_7d493_14 ?_
  refine wp_ishr dJ0_length_8abf5_9 ?_
  refine wp_iret rfl dJ0_length_8abf5_10 ?_
  rw [show (shr 5 0) = 5 by decide]
  exact kk
set_option maxRecDepth 20000 in
set_option maxHeartbeats 4000000 in
theorem sp_slen_2 {l : Launch} {g : Gw} {d n : Nat} {M : Mm} {Q : Option Wd → Mm → Prop} (hd : 2 ≤ d) (kk : Q (some (0, 5)) M) : Wp l g d 0 0 n m_J0_length_8abf5 0 [] [(2, 1002)] M Q := by
  refine wp_aload_n dJ0_length_8abf5_0 rfl rfl ?_
  refine wp_strV 2 rfl (by decide) wl_RJ0_9 dJ0_length_8abf5_1 ?_
  refine wp_alenK 2 rfl (by decide) dJ0_length_8abf5_4 ?_
  change Wp _ _ _ _ _ _ _ _ ((0, 5) :: _) _ _ _
  refine wp_aload_n dJ0_length_8abf5_5 rfl rfl ?_
  refine wp_callV0 (d' := d - 1) cv_RJ0_335 1002 rfl [] [(0, 5)] rfl rfl (Or.inr ⟨by decide, by decide, rfl⟩) (by omega) (Nat.le_of_ble_eq_true rfl) dJ0_length_8abf5_6 rfl (Nat.le_of_ble_eq_true rfl) (by omega) (loc1 := [(2, 1002)]) rfl ?_
  refine wp_getsC wl_RJ0_38 dJ0_coder_7d493_0 ?_
  refine wp_if_eq (tgt := 13) dJ0_coder_7d493_3 (by decide) (fun h => absurd h (by decide)) (fun _ => ?_)
  refine wp_aload_n dJ0_coder_7d493_6 rfl rfl ?_
  refine wp_strC 2 rfl (by decide) wl_RJ0_15 dJ0_coder_7d493_7 ?_
  refine wp_goto (tgt := 14) dJ0_coder_7d493_10 (by decide) ?_
  refine wp_cret rfl (by decide) dJ0_coder_7d493_14 ?_
  refine wp_ishr dJ0_length_8abf5_9 ?_
  refine wp_iret rfl dJ0_length_8abf5_10 ?_
  rw [show (shr 5 0) = 5 by decide]
  exact kk
set_option maxRecDepth 20000 in
set_option maxHeartbeats 4000000 in
theorem sp_slen_3 {l : Launch} {g : Gw} {d n : Nat} {M : Mm} {Q : Option Wd → Mm → Prop} (hd : 2 ≤ d) (kk : Q (some (0, 4)) M) : Wp l g d 0 0 n m_J0_length_8abf5 0 [] [(2, 1003)] M Q := by
  refine wp_aload_n dJ0_length_8abf5_0 rfl rfl ?_
  refine wp_strV 3 rfl (by decide) wl_RJ0_9 dJ0_length_8abf5_1 ?_
  refine wp_alenK 3 rfl (by decide) dJ0_length_8abf5_4 ?_
  change Wp _ _ _ _ _ _ _ _ ((0, 4) :: _) _ _ _
  refine wp_aload_n dJ0_length_8abf5_5 rfl rfl ?_
  refine wp_callV0 (d' := d - 1) cv_RJ0_335 1003 rfl [] [(0, 4)] rfl rfl (Or.inr ⟨by decide, by decide, rfl⟩) (by omega) (Nat.le_of_ble_eq_true rfl) dJ0_length_8abf5_6 rfl (Nat.le_of_ble_eq_true rfl) (by omega) (loc1 := [(2, 1003)]) rfl ?_
  refine wp_getsC wl_RJ0_38 dJ0_coder_7d493_0 ?_
  refine wp_if_eq (tgt := 13) dJ0_coder_7d493_3 (by decide) (fun h => absurd h (by decide)) (fun _ => ?_)
  refine wp_aload_n dJ0_coder_7d493_6 rfl rfl ?_
  refine wp_strC 3 rfl (by decide) wl_RJ0_15 dJ0_coder_7d493_7 ?_
  refine wp_goto (tgt := 14) dJ0_coder_7d493_10 (by decide) ?_
  refine wp_cret rfl (by decide) dJ0_coder_7d493_14 ?_
  refine wp_ishr dJ0_length_8abf5_9 ?_
  refine wp_iret rfl dJ0_length_8abf5_10 ?_
  rw [show (shr 4 0) = 4 by decide]
  exact kk
set_option maxRecDepth 20000 in
set_option maxHeartbeats 4000000 in
theorem sp_slen_4 {l : Launch} {g : Gw} {d n : Nat} {M : Mm} {Q : Option Wd → Mm → Prop} (hd : 2 ≤ d) (kk : Q (some (0, 2)) M) : Wp l g d 0 0 n m_J0_length_8abf5 0 [] [(2, 1004)] M Q := by
  refine wp_aload_n dJ0_length_8abf5_0 rfl rfl ?_
  refine wp_strV 4 rfl (by decide) wl_RJ0_9 dJ0_length_8abf5_1 ?_
  refine wp_alenK 4 rfl (by decide) dJ0_length_8abf5_4 ?_
  change Wp _ _ _ _ _ _ _ _ ((0, 2) :: _) _ _ _
  refine wp_aload_n dJ0_length_8abf5_5 rfl rfl ?_
  refine wp_callV0 (d' := d - 1) cv_RJ0_335 1004 rfl [] [(0, 2)] rfl rfl (Or.inr ⟨by decide, by decide, rfl⟩) (by omega) (Nat.le_of_ble_eq_true rfl) dJ0_length_8abf5_6 rfl (Nat.le_of_ble_eq_true rfl) (by omega) (loc1 := [(2, 1004)]) rfl ?_
  refine wp_getsC wl_RJ0_38 dJ0_coder_7d493_0 ?_
  refine wp_if_eq (tgt := 13) dJ0_coder_7d493_3 (by decide) (fun h => absurd h (by decide)) (fun _ => ?_)
  refine wp_aload_n dJ0_coder_7d493_6 rfl rfl ?_
  refine wp_strC 4 rfl (by decide) wl_RJ0_15 dJ0_coder_7d493_7 ?_
  refine wp_goto (tgt := 14) dJ0_coder_7d493_10 (by decide) ?_
  refine wp_cret rfl (by decide) dJ0_coder_7d493_14 ?_
  refine wp_ishr dJ0_length_8abf5_9 ?_
  refine wp_iret rfl dJ0_length_8abf5_10 ?_
  rw [show (shr 2 0) = 2 by decide]
  exact kk
set_option maxRecDepth 20000 in
set_option maxHeartbeats 4000000 in
theorem sp_slen_5 {l : Launch} {g : Gw} {d n : Nat} {M : Mm} {Q : Option Wd → Mm → Prop} (hd : 2 ≤ d) (kk : Q (some (0, 3)) M) : Wp l g d 0 0 n m_J0_length_8abf5 0 [] [(2, 1005)] M Q := by
  refine wp_aload_n dJ0_length_8abf5_0 rfl rfl ?_
  refine wp_strV 5 rfl (by decide) wl_RJ0_9 dJ0_length_8abf5_1 ?_
  refine wp_alenK 5 rfl (by decide) dJ0_length_8abf5_4 ?_
  change Wp _ _ _ _ _ _ _ _ ((0, 3) :: _) _ _ _
  refine wp_aload_n dJ0_length_8abf5_5 rfl rfl ?_
  refine wp_callV0 (d' := d - 1) cv_RJ0_335 1005 rfl [] [(0, 3)] rfl rfl (Or.inr ⟨by decide, by decide, rfl⟩) (by omega) (Nat.le_of_ble_eq_true rfl) dJ0_length_8abf5_6 rfl (Nat.le_of_ble_eq_true rfl) (by omega) (loc1 := [(2, 1005)]) rfl ?_
  refine wp_getsC wl_RJ0_38 dJ0_coder_7d493_0 ?_
  refine wp_if_eq (tgt := 13) dJ0_coder_7d493_3 (by decide) (fun h => absurd h (by decide)) (fun _ => ?_)
  refine wp_aload_n dJ0_coder_7d493_6 rfl rfl ?_
  refine wp_strC 5 rfl (by decide) wl_RJ0_15 dJ0_coder_7d493_7 ?_
  refine wp_goto (tgt := 14) dJ0_coder_7d493_10 (by decide) ?_
  refine wp_cret rfl (by decide) dJ0_coder_7d493_14 ?_
  refine wp_ishr dJ0_length_8abf5_9 ?_
  refine wp_iret rfl dJ0_length_8abf5_10 ?_
  rw [show (shr 3 0) = 3 by decide]
  exact kk
set_option maxRecDepth 20000 in
set_option maxHeartbeats 4000000 in
theorem sp_slen_6 {l : Launch} {g : Gw} {d n : Nat} {M : Mm} {Q : Option Wd → Mm → Prop} (hd : 2 ≤ d) (kk : Q (some (0, 3)) M) : Wp l g d 0 0 n m_J0_length_8abf5 0 [] [(2, 1006)] M Q := by
  refine wp_aload_n dJ0_length_8abf5_0 rfl rfl ?_
  refine wp_strV 6 rfl (by decide) wl_RJ0_9 dJ0_length_8abf5_1 ?_
  refine wp_alenK 6 rfl (by decide) dJ0_length_8abf5_4 ?_
  change Wp _ _ _ _ _ _ _ _ ((0, 3) :: _) _ _ _
  refine wp_aload_n dJ0_length_8abf5_5 rfl rfl ?_
  refine wp_callV0 (d' := d - 1) cv_RJ0_335 1006 rfl [] [(0, 3)] rfl rfl (Or.inr ⟨by decide, by decide, rfl⟩) (by omega) (Nat.le_of_ble_eq_true rfl) dJ0_length_8abf5_6 rfl (Nat.le_of_ble_eq_true rfl) (by omega) (loc1 := [(2, 1006)]) rfl ?_
  refine wp_getsC wl_RJ0_38 dJ0_coder_7d493_0 ?_
  refine wp_if_eq (tgt := 13) dJ0_coder_7d493_3 (by decide) (fun h => absurd h (by decide)) (fun _ => ?_)
  refine wp_aload_n dJ0_coder_7d493_6 rfl rfl ?_
  refine wp_strC 6 rfl (by decide) wl_RJ0_15 dJ0_coder_7d493_7 ?_
  refine wp_goto (tgt := 14) dJ0_coder_7d493_10 (by decide) ?_
  refine wp_cret rfl (by decide) dJ0_coder_7d493_14 ?_
  refine wp_ishr dJ0_length_8abf5_9 ?_
  refine wp_iret rfl dJ0_length_8abf5_10 ?_
  rw [show (shr 3 0) = 3 by decide]
  exact kk
set_option maxRecDepth 20000 in
set_option maxHeartbeats 4000000 in
theorem sp_slen_7 {l : Launch} {g : Gw} {d n : Nat} {M : Mm} {Q : Option Wd → Mm → Prop} (hd : 2 ≤ d) (kk : Q (some (0, 5)) M) : Wp l g d 0 0 n m_J0_length_8abf5 0 [] [(2, 1007)] M Q := by
  refine wp_aload_n dJ0_length_8abf5_0 rfl rfl ?_
  refine wp_strV 7 rfl (by decide) wl_RJ0_9 dJ0_length_8abf5_1 ?_
  refine wp_alenK 7 rfl (by decide) dJ0_length_8abf5_4 ?_
  change Wp _ _ _ _ _ _ _ _ ((0, 5) :: _) _ _ _
  refine wp_aload_n dJ0_length_8abf5_5 rfl rfl ?_
  refine wp_callV0 (d' := d - 1) cv_RJ0_335 1007 rfl [] [(0, 5)] rfl rfl (Or.inr ⟨by decide, by decide, rfl⟩) (by omega) (Nat.le_of_ble_eq_true rfl) dJ0_length_8abf5_6 rfl (Nat.le_of_ble_eq_true rfl) (by omega) (loc1 := [(2, 1007)]) rfl ?_
  refine wp_getsC wl_RJ0_38 dJ0_coder_7d493_0 ?_
  refine wp_if_eq (tgt := 13) dJ0_coder_7d493_3 (by decide) (fun h => absurd h (by decide)) (fun _ => ?_)
  refine wp_aload_n dJ0_coder_7d493_6 rfl rfl ?_
  refine wp_strC 7 rfl (by decide) wl_RJ0_15 dJ0_coder_7d493_7 ?_
  refine wp_goto (tgt := 14) dJ0_coder_7d493_10 (by decide) ?_
  refine wp_cret rfl (by decide) dJ0_coder_7d493_14 ?_
  refine wp_ishr dJ0_length_8abf5_9 ?_
  refine wp_iret rfl dJ0_length_8abf5_10 ?_
  rw [show (shr 5 0) = 5 by decide]
  exact kk
set_option maxRecDepth 20000 in
set_option maxHeartbeats 4000000 in
theorem sp_slen_8 {l : Launch} {g : Gw} {d n : Nat} {M : Mm} {Q : Option Wd → Mm → Prop} (hd : 2 ≤ d) (kk : Q (some (0, 6)) M) : Wp l g d 0 0 n m_J0_length_8abf5 0 [] [(2, 1008)] M Q := by
  refine wp_aload_n dJ0_length_8abf5_0 rfl rfl ?_
  refine wp_strV 8 rfl (by decide) wl_RJ0_9 dJ0_length_8abf5_1 ?_
  refine wp_alenK 8 rfl (by decide) dJ0_length_8abf5_4 ?_
  change Wp _ _ _ _ _ _ _ _ ((0, 6) :: _) _ _ _
  refine wp_aload_n dJ0_length_8abf5_5 rfl rfl ?_
  refine wp_callV0 (d' := d - 1) cv_RJ0_335 1008 rfl [] [(0, 6)] rfl rfl (Or.inr ⟨by decide, by decide, rfl⟩) (by omega) (Nat.le_of_ble_eq_true rfl) dJ0_length_8abf5_6 rfl (Nat.le_of_ble_eq_true rfl) (by omega) (loc1 := [(2, 1008)]) rfl ?_
  refine wp_getsC wl_RJ0_38 dJ0_coder_7d493_0 ?_
  refine wp_if_eq (tgt := 13) dJ0_coder_7d493_3 (by decide) (fun h => absurd h (by decide)) (fun _ => ?_)
  refine wp_aload_n dJ0_coder_7d493_6 rfl rfl ?_
  refine wp_strC 8 rfl (by decide) wl_RJ0_15 dJ0_coder_7d493_7 ?_
  refine wp_goto (tgt := 14) dJ0_coder_7d493_10 (by decide) ?_
  refine wp_cret rfl (by decide) dJ0_coder_7d493_14 ?_
  refine wp_ishr dJ0_length_8abf5_9 ?_
  refine wp_iret rfl dJ0_length_8abf5_10 ?_
  rw [show (shr 6 0) = 6 by decide]
  exact kk
set_option maxRecDepth 20000 in
set_option maxHeartbeats 4000000 in
theorem sp_slen_9 {l : Launch} {g : Gw} {d n : Nat} {M : Mm} {Q : Option Wd → Mm → Prop} (hd : 2 ≤ d) (kk : Q (some (0, 6)) M) : Wp l g d 0 0 n m_J0_length_8abf5 0 [] [(2, 1009)] M Q := by
  refine wp_aload_n dJ0_length_8abf5_0 rfl rfl ?_
  refine wp_strV 9 rfl (by decide) wl_RJ0_9 dJ0_length_8abf5_1 ?_
  refine wp_alenK 9 rfl (by decide) dJ0_length_8abf5_4 ?_
  change Wp _ _ _ _ _ _ _ _ ((0, 6) :: _) _ _ _
  refine wp_aload_n dJ0_length_8abf5_5 rfl rfl ?_
  refine wp_callV0 (d' := d - 1) cv_RJ0_335 1009 rfl [] [(0, 6)] rfl rfl (Or.inr ⟨by decide, by decide, rfl⟩) (by omega) (Nat.le_of_ble_eq_true rfl) dJ0_length_8abf5_6 rfl (Nat.le_of_ble_eq_true rfl) (by omega) (loc1 := [(2, 1009)]) rfl ?_
  refine wp_getsC wl_RJ0_38 dJ0_coder_7d493_0 ?_
  refine wp_if_eq (tgt := 13) dJ0_coder_7d493_3 (by decide) (fun h => absurd h (by decide)) (fun _ => ?_)
  refine wp_aload_n dJ0_coder_7d493_6 rfl rfl ?_
  refine wp_strC 9 rfl (by decide) wl_RJ0_15 dJ0_coder_7d493_7 ?_
  refine wp_goto (tgt := 14) dJ0_coder_7d493_10 (by decide) ?_
  refine wp_cret rfl (by decide) dJ0_coder_7d493_14 ?_
  refine wp_ishr dJ0_length_8abf5_9 ?_
  refine wp_iret rfl dJ0_length_8abf5_10 ?_
  rw [show (shr 6 0) = 6 by decide]
  exact kk
set_option maxRecDepth 20000 in
set_option maxHeartbeats 4000000 in
theorem sp_slen_10 {l : Launch} {g : Gw} {d n : Nat} {M : Mm} {Q : Option Wd → Mm → Prop} (hd : 2 ≤ d) (kk : Q (some (0, 6)) M) : Wp l g d 0 0 n m_J0_length_8abf5 0 [] [(2, 1010)] M Q := by
  refine wp_aload_n dJ0_length_8abf5_0 rfl rfl ?_
  refine wp_strV 10 rfl (by decide) wl_RJ0_9 dJ0_length_8abf5_1 ?_
  refine wp_alenK 10 rfl (by decide) dJ0_length_8abf5_4 ?_
  change Wp _ _ _ _ _ _ _ _ ((0, 6) :: _) _ _ _
  refine wp_aload_n dJ0_length_8abf5_5 rfl rfl ?_
  refine wp_callV0 (d' := d - 1) cv_RJ0_335 1010 rfl [] [(0, 6)] rfl rfl (Or.inr ⟨by decide, by decide, rfl⟩) (by omega) (Nat.le_of_ble_eq_true rfl) dJ0_length_8abf5_6 rfl (Nat.le_of_ble_eq_true rfl) (by omega) (loc1 := [(2, 1010)]) rfl ?_
  refine wp_getsC wl_RJ0_38 dJ0_coder_7d493_0 ?_
  refine wp_if_eq (tgt := 13) dJ0_coder_7d493_3 (by decide) (fun h => absurd h (by decide)) (fun _ => ?_)
  refine wp_aload_n dJ0_coder_7d493_6 rfl rfl ?_
  refine wp_strC 10 rfl (by decide) wl_RJ0_15 dJ0_coder_7d493_7 ?_
  refine wp_goto (tgt := 14) dJ0_coder_7d493_10 (by decide) ?_
  refine wp_cret rfl (by decide) dJ0_coder_7d493_14 ?_
  refine wp_ishr dJ0_length_8abf5_9 ?_
  refine wp_iret rfl dJ0_length_8abf5_10 ?_
  rw [show (shr 6 0) = 6 by decide]
  exact kk
set_option maxRecDepth 20000 in
set_option maxHeartbeats 4000000 in
theorem sp_slen_11 {l : Launch} {g : Gw} {d n : Nat} {M : Mm} {Q : Option Wd → Mm → Prop} (hd : 2 ≤ d) (kk : Q (some (0, 5)) M) : Wp l g d 0 0 n m_J0_length_8abf5 0 [] [(2, 1011)] M Q := by
  refine wp_aload_n dJ0_length_8abf5_0 rfl rfl ?_
  refine wp_strV 11 rfl (by decide) wl_RJ0_9 dJ0_length_8abf5_1 ?_
  refine wp_alenK 11 rfl (by decide) dJ0_length_8abf5_4 ?_
  change Wp _ _ _ _ _ _ _ _ ((0, 5) :: _) _ _ _
  refine wp_aload_n dJ0_length_8abf5_5 rfl rfl ?_
  refine wp_callV0 (d' := d - 1) cv_RJ0_335 1011 rfl [] [(0, 5)] rfl rfl (Or.inr ⟨by decide, by decide, rfl⟩) (by omega) (Nat.le_of_ble_eq_true rfl) dJ0_length_8abf5_6 rfl (Nat.le_of_ble_eq_true rfl) (by omega) (loc1 := [(2, 1011)]) rfl ?_
  refine wp_getsC wl_RJ0_38 dJ0_coder_7d493_0 ?_
  refine wp_if_eq (tgt := 13) dJ0_coder_7d493_3 (by decide) (fun h => absurd h (by decide)) (fun _ => ?_)
  refine wp_aload_n dJ0_coder_7d493_6 rfl rfl ?_
  refine wp_strC 11 rfl (by decide) wl_RJ0_15 dJ0_coder_7d493_7 ?_
  refine wp_goto (tgt := 14) dJ0_coder_7d493_10 (by decide) ?_
  refine wp_cret rfl (by decide) dJ0_coder_7d493_14 ?_
  refine wp_ishr dJ0_length_8abf5_9 ?_
  refine wp_iret rfl dJ0_length_8abf5_10 ?_
  rw [show (shr 5 0) = 5 by decide]
  exact kk
set_option maxRecDepth 20000 in
set_option maxHeartbeats 4000000 in
theorem sp_slen_12 {l : Launch} {g : Gw} {d n : Nat} {M : Mm} {Q : Option Wd → Mm → Prop} (hd : 2 ≤ d) (kk : Q (some (0, 6)) M) : Wp l g d 0 0 n m_J0_length_8abf5 0 [] [(2, 1012)] M Q := by
  refine wp_aload_n dJ0_length_8abf5_0 rfl rfl ?_
  refine wp_strV 12 rfl (by decide) wl_RJ0_9 dJ0_length_8abf5_1 ?_
  refine wp_alenK 12 rfl (by decide) dJ0_length_8abf5_4 ?_
  change Wp _ _ _ _ _ _ _ _ ((0, 6) :: _) _ _ _
  refine wp_aload_n dJ0_length_8abf5_5 rfl rfl ?_
  refine wp_callV0 (d' := d - 1) cv_RJ0_335 1012 rfl [] [(0, 6)] rfl rfl (Or.inr ⟨by decide, by decide, rfl⟩) (by omega) (Nat.le_of_ble_eq_true rfl) dJ0_length_8abf5_6 rfl (Nat.le_of_ble_eq_true rfl) (by omega) (loc1 := [(2, 1012)]) rfl ?_
  refine wp_getsC wl_RJ0_38 dJ0_coder_7d493_0 ?_
  refine wp_if_eq (tgt := 13) dJ0_coder_7d493_3 (by decide) (fun h => absurd h (by decide)) (fun _ => ?_)
  refine wp_aload_n dJ0_coder_7d493_6 rfl rfl ?_
  refine wp_strC 12 rfl (by decide) wl_RJ0_15 dJ0_coder_7d493_7 ?_
  refine wp_goto (tgt := 14) dJ0_coder_7d493_10 (by decide) ?_
  refine wp_cret rfl (by decide) dJ0_coder_7d493_14 ?_
  refine wp_ishr dJ0_length_8abf5_9 ?_
  refine wp_iret rfl dJ0_length_8abf5_10 ?_
  rw [show (shr 6 0) = 6 by decide]
  exact kk
set_option maxRecDepth 20000 in
set_option maxHeartbeats 4000000 in
theorem sp_slen_13 {l : Launch} {g : Gw} {d n : Nat} {M : Mm} {Q : Option Wd → Mm → Prop} (hd : 2 ≤ d) (kk : Q (some (0, 8)) M) : Wp l g d 0 0 n m_J0_length_8abf5 0 [] [(2, 1013)] M Q := by
  refine wp_aload_n dJ0_length_8abf5_0 rfl rfl ?_
  refine wp_strV 13 rfl (by decide) wl_RJ0_9 dJ0_length_8abf5_1 ?_
  refine wp_alenK 13 rfl (by decide) dJ0_length_8abf5_4 ?_
  change Wp _ _ _ _ _ _ _ _ ((0, 8) :: _) _ _ _
  refine wp_aload_n dJ0_length_8abf5_5 rfl rfl ?_
  refine wp_callV0 (d' := d - 1) cv_RJ0_335 1013 rfl [] [(0, 8)] rfl rfl (Or.inr ⟨by decide, by decide, rfl⟩) (by omega) (Nat.le_of_ble_eq_true rfl) dJ0_length_8abf5_6 rfl (Nat.le_of_ble_eq_true rfl) (by omega) (loc1 := [(2, 1013)]) rfl ?_
  refine wp_getsC wl_RJ0_38 dJ0_coder_7d493_0 ?_
  refine wp_if_eq (tgt := 13) dJ0_coder_7d493_3 (by decide) (fun h => absurd h (by decide)) (fun _ => ?_)
  refine wp_aload_n dJ0_coder_7d493_6 rfl rfl ?_
  refine wp_strC 13 rfl (by decide) wl_RJ0_15 dJ0_coder_7d493_7 ?_
  refine wp_goto (tgt := 14) dJ0_coder_7d493_10 (by decide) ?_
  refine wp_cret rfl (by decide) dJ0_coder_7d493_14 ?_
  refine wp_ishr dJ0_length_8abf5_9 ?_
  refine wp_iret rfl dJ0_length_8abf5_10 ?_
  rw [show (shr 8 0) = 8 by decide]
  exact kk
theorem nrw_c {x : Int} (h : 0 ≤ x ∧ x < 256) : narrow .char (.int (Int32.ofInt x)) = .int (Int32.ofInt x) := by
  obtain ⟨k, rfl⟩ := Int.eq_ofNat_of_zero_le h.1
  have : ∀ k : Nat, k < 256 → narrow .char (.int (Int32.ofInt (k : Int))) = .int (Int32.ofInt (k : Int)) := by decide +kernel
  exact this k (by omega)
theorem byt_r : ∀ k : Nat, k < 14 → ∀ i : Nat, i < lenL.getD k 0 → (0 ≤ byt k i ∧ byt k i < 256) ∧ u16 (bnd (byt k i) 255) = byt k i := by decide +kernel
set_option maxRecDepth 20000 in
set_option maxHeartbeats 4000000 in
theorem sp_charAt_0 {l : Launch} {g : Gw} {d n : Nat} {M : Mm} {Q : Option Wd → Mm → Prop} (hd : 4 ≤ d) {i : Nat} (hi : i < 45) (kk : Q (some (0, byt 0 i)) M) : Wp l g d 0 0 n m_J0_charAt_5068e 0 [] [(2, 1000), (0, (i : Int))] M Q := by
  have hb := byt_r 0 (by decide) i hi
  refine wp_aload_n dJ0_charAt_5068e_0 rfl rfl ?_
  refine wp_callV0 (d' := d - 1) cv_RJ0_492 1000 rfl [] [] rfl rfl (Or.inr ⟨by decide, by decide, rfl⟩) (by omega) (Nat.le_of_ble_eq_true rfl) dJ0_charAt_5068e_1 rfl (Nat.le_of_ble_eq_true rfl) (by omega) (loc1 := [(2, 1000)]) rfl ?_
  refine wp_getsC wl_RJ0_38 dJ0_isLatin1_aae02_0 ?_
  refine wp_if_eq (tgt := 17) dJ0_isLatin1_aae02_3 (by decide) (fun h => absurd h (by decide)) (fun _ => ?_)
  refine wp_aload_n dJ0_isLatin1_aae02_6 rfl rfl ?_
  refine wp_strC 0 rfl (by decide) wl_RJ0_15 dJ0_isLatin1_aae02_7 ?_
  refine wp_if_ne (tgt := 17) dJ0_isLatin1_aae02_10 (by decide) (fun h => absurd h (by decide)) (fun _ => ?_)
  refine wp_iconst dJ0_isLatin1_aae02_13 (by decide) ?_
  refine wp_goto (tgt := 18) dJ0_isLatin1_aae02_14 (by decide) ?_
  refine wp_zret rfl (by omega) dJ0_isLatin1_aae02_18 ?_
  refine wp_if_eq (tgt := 16) dJ0_charAt_5068e_4 (by decide) (fun h => absurd h (by decide)) (fun _ => ?_)
  refine wp_aload_n dJ0_charAt_5068e_7 rfl rfl ?_
  refine wp_strV 0 rfl (by decide) wl_RJ0_9 dJ0_charAt_5068e_8 ?_
  refine wp_iload_n dJ0_charAt_5068e_11 rfl rfl ?_
  refine wp_callS0 (d' := d - 1) cs_RJ0_495 [(2, 1100), (0, (i : Int))] [] rfl rfl (Nat.le_of_ble_eq_true rfl) dJ0_charAt_5068e_12 rfl (Nat.le_of_ble_eq_true rfl) (by omega) (loc1 := [(2, 1100), (0, (i : Int))]) rfl ?_
  refine wp_iload_n dJ1_charAt_3b067_0 rfl rfl ?_
  refine wp_aload_n dJ1_charAt_3b067_1 rfl rfl ?_
  refine wp_alenK 0 rfl (by decide) dJ1_charAt_3b067_2 ?_
  change Wp _ _ _ _ _ _ _ _ ((0, 45) :: _) _ _ _
  refine wp_callS0 (d' := d - 2) cs_RJ1_9 [(0, (i : Int)), (0, 45)] [] rfl rfl (Nat.le_of_ble_eq_true rfl) dJ1_charAt_3b067_3 rfl (Nat.le_of_ble_eq_true rfl) (by omega) (loc1 := [(0, (i : Int)), (0, 45)]) rfl ?_
  refine wp_iload_n dJ0_checkIndex_df160_0 rfl rfl ?_
  refine wp_iload_n dJ0_checkIndex_df160_1 rfl rfl ?_
  refine wp_getsF wl_RJ0_1053 dJ0_checkIndex_df160_2 ?_
  refine wp_callS0 (d' := d - 3) cs_RJ0_1059 [(0, (i : Int)), (0, 45), (2, (fmW g))] [] rfl rfl (Nat.le_of_ble_eq_true rfl) dJ0_checkIndex_df160_5 rfl (Nat.le_of_ble_eq_true rfl) (by omega) (loc1 := [(0, (i : Int)), (0, 45), (2, (fmW g))]) rfl ?_
  refine wp_iload_n dJ3_checkIndex_8e157_0 rfl rfl ?_
  refine wp_if_lt (tgt := 9) dJ3_checkIndex_8e157_1 (by decide) (fun h => absurd h (by omega)) (fun _ => ?_)
  refine wp_iload_n dJ3_checkIndex_8e157_4 rfl rfl ?_
  refine wp_iload_n dJ3_checkIndex_8e157_5 rfl rfl ?_
  refine wp_icmp_lt (tgt := 16) dJ3_checkIndex_8e157_6 (by decide) (fun _ => ?_) (fun h => absurd h (by omega))
  refine wp_iload_n dJ3_checkIndex_8e157_16 rfl rfl ?_
  refine wp_iret rfl dJ3_checkIndex_8e157_17 ?_
  refine wp_pop dJ0_checkIndex_df160_8 (Or.inl rfl) ?_
  refine wp_vret rfl dJ0_checkIndex_df160_9 ?_
  refine wp_aload_n dJ1_charAt_3b067_6 rfl rfl ?_
  refine wp_iload_n dJ1_charAt_3b067_7 rfl rfl ?_
  refine wp_baldK 0 rfl (by decide) ⟨by omega, by show _ < ((45 : Nat) : Int); omega⟩ dJ1_charAt_3b067_8 ?_
  change Wp _ _ _ _ _ _ _ _ ((0, byt 0 i) :: _) _ _ _
  refine wp_sipush dJ1_charAt_3b067_9 (by decide) (by decide) ?_
  refine wp_iand dJ1_charAt_3b067_12 ?_
  refine wp_i2c dJ1_charAt_3b067_13 ?_
  change Wp _ _ _ _ _ _ _ _ ((0, u16 (bnd (byt 0 i) 255)) :: _) _ _ _
  rw [hb.2]
  refine wp_cret rfl (nrw_c hb.1) dJ1_charAt_3b067_14 ?_
  refine wp_cret rfl (nrw_c hb.1) dJ0_charAt_5068e_15 ?_
  exact kk
set_option maxRecDepth 20000 in
set_option maxHeartbeats 4000000 in
theorem sp_charAt_1 {l : Launch} {g : Gw} {d n : Nat} {M : Mm} {Q : Option Wd → Mm → Prop} (hd : 4 ≤ d) {i : Nat} (hi : i < 5) (kk : Q (some (0, byt 1 i)) M) : Wp l g d 0 0 n m_J0_charAt_5068e 0 [] [(2, 1001), (0, (i : Int))] M Q := by
  have hb := byt_r 1 (by decide) i hi
  refine wp_aload_n dJ0_charAt_5068e_0 rfl rfl ?_
  refine wp_callV0 (d' := d - 1) cv_RJ0_492 1001 rfl [] [] rfl rfl (Or.inr ⟨by decide, by decide, rfl⟩) (by omega) (Nat.le_of_ble_eq_true rfl) dJ0_charAt_5068e_1 rfl (Nat.le_of_ble_eq_true rfl) (by omega) (loc1 := [(2, 1001)]) rfl ?_
  refine wp_getsC wl_RJ0_38 dJ0_isLatin1_aae02_0 ?_
  refine wp_if_eq (tgt := 17) dJ0_isLatin1_aae02_3 (by decide) (fun h => absurd h (by decide)) (fun _ => ?_)
  refine wp_aload_n dJ0_isLatin1_aae02_6 rfl rfl ?_
  refine wp_strC 1 rfl (by decide) wl_RJ0_15 dJ0_isLatin1_aae02_7 ?_
  refine wp_if_ne (tgt := 17) dJ0_isLatin1_aae02_10 (by decide) (fun h => absurd h (by decide)) (fun _ => ?_)
  refine wp_iconst dJ0_isLatin1_aae02_13 (by decide) ?_
  refine wp_goto (tgt := 18) dJ0_isLatin1_aae02_14 (by decide) ?_
  refine wp_zret rfl (by omega) dJ0_isLatin1_aae02_18 ?_
  refine wp_if_eq (tgt := 16) dJ0_charAt_5068e_4 (by decide) (fun h => absurd h (by decide)) (fun _ => ?_)
  refine wp_aload_n dJ0_charAt_5068e_7 rfl rfl ?_
  refine wp_strV 1 rfl (by decide) wl_RJ0_9 dJ0_charAt_5068e_8 ?_
  refine wp_iload_n dJ0_charAt_5068e_11 rfl rfl ?_
  refine wp_callS0 (d' := d - 1) cs_RJ0_495 [(2, 1101), (0, (i : Int))] [] rfl rfl (Nat.le_of_ble_eq_true rfl) dJ0_charAt_5068e_12 rfl (Nat.le_of_ble_eq_true rfl) (by omega) (loc1 := [(2, 1101), (0, (i : Int))]) rfl ?_
  refine wp_iload_n dJ1_charAt_3b067_0 rfl rfl ?_
  refine wp_aload_n dJ1_charAt_3b067_1 rfl rfl ?_
  refine wp_alenK 1 rfl (by decide) dJ1_charAt_3b067_2 ?_
  change Wp _ _ _ _ _ _ _ _ ((0, 5) :: _) _ _ _
  refine wp_callS0 (d' := d - 2) cs_RJ1_9 [(0, (i : Int)), (0, 5)] [] rfl rfl (Nat.le_of_ble_eq_true rfl) dJ1_charAt_3b067_3 rfl (Nat.le_of_ble_eq_true rfl) (by omega) (loc1 := [(0, (i : Int)), (0, 5)]) rfl ?_
  refine wp_iload_n dJ0_checkIndex_df160_0 rfl rfl ?_
  refine wp_iload_n dJ0_checkIndex_df160_1 rfl rfl ?_
  refine wp_getsF wl_RJ0_1053 dJ0_checkIndex_df160_2 ?_
  refine wp_callS0 (d' := d - 3) cs_RJ0_1059 [(0, (i : Int)), (0, 5), (2, (fmW g))] [] rfl rfl (Nat.le_of_ble_eq_true rfl) dJ0_checkIndex_df160_5 rfl (Nat.le_of_ble_eq_true rfl) (by omega) (loc1 := [(0, (i : Int)), (0, 5), (2, (fmW g))]) rfl ?_
  refine wp_iload_n dJ3_checkIndex_8e157_0 rfl rfl ?_
  refine wp_if_lt (tgt := 9) dJ3_checkIndex_8e157_1 (by decide) (fun h => absurd h (by omega)) (fun _ => ?_)
  refine wp_iload_n dJ3_checkIndex_8e157_4 rfl rfl ?_
  refine wp_iload_n dJ3_checkIndex_8e157_5 rfl rfl ?_
  refine wp_icmp_lt (tgt := 16) dJ3_checkIndex_8e157_6 (by decide) (fun _ => ?_) (fun h => absurd h (by omega))
  refine wp_iload_n dJ3_checkIndex_8e157_16 rfl rfl ?_
  refine wp_iret rfl dJ3_checkIndex_8e157_17 ?_
  refine wp_pop dJ0_checkIndex_df160_8 (Or.inl rfl) ?_
  refine wp_vret rfl dJ0_checkIndex_df160_9 ?_
  refine wp_aload_n dJ1_charAt_3b067_6 rfl rfl ?_
  refine wp_iload_n dJ1_charAt_3b067_7 rfl rfl ?_
  refine wp_baldK 1 rfl (by decide) ⟨by omega, by show _ < ((5 : Nat) : Int); omega⟩ dJ1_charAt_3b067_8 ?_
  change Wp _ _ _ _ _ _ _ _ ((0, byt 1 i) :: _) _ _ _
  refine wp_sipush dJ1_charAt_3b067_9 (by decide) (by decide) ?_
  refine wp_iand dJ1_charAt_3b067_12 ?_
  refine wp_i2c dJ1_charAt_3b067_13 ?_
  change Wp _ _ _ _ _ _ _ _ ((0, u16 (bnd (byt 1 i) 255)) :: _) _ _ _
  rw [hb.2]
  refine wp_cret rfl (nrw_c hb.1) dJ1_charAt_3b067_14 ?_
  refine wp_cret rfl (nrw_c hb.1) dJ0_charAt_5068e_15 ?_
  exact kk
set_option maxRecDepth 20000 in
set_option maxHeartbeats 4000000 in
theorem sp_charAt_2 {l : Launch} {g : Gw} {d n : Nat} {M : Mm} {Q : Option Wd → Mm → Prop} (hd : 4 ≤ d) {i : Nat} (hi : i < 5) (kk : Q (some (0, byt 2 i)) M) : Wp l g d 0 0 n m_J0_charAt_5068e 0 [] [(2, 1002), (0, (i : Int))] M Q := by
  have hb := byt_r 2 (by decide) i hi
  refine wp_aload_n dJ0_charAt_5068e_0 rfl rfl ?_
  refine wp_callV0 (d' := d - 1) cv_RJ0_492 1002 rfl [] [] rfl rfl (Or.inr ⟨by decide, by decide, rfl⟩) (by omega) (Nat.le_of_ble_eq_true rfl) dJ0_charAt_5068e_1 rfl (Nat.le_of_ble_eq_true rfl) (by omega) (loc1 := [(2, 1002)]) rfl ?_
  refine wp_getsC wl_RJ0_38 dJ0_isLatin1_aae02_0 ?_
  refine wp_if_eq (tgt := 17) dJ0_isLatin1_aae02_3 (by decide) (fun h => absurd h (by decide)) (fun _ => ?_)
  refine wp_aload_n dJ0_isLatin1_aae02_6 rfl rfl ?_
  refine wp_strC 2 rfl (by decide) wl_RJ0_15 dJ0_isLatin1_aae02_7 ?_
  refine wp_if_ne (tgt := 17) dJ0_isLatin1_aae02_10 (by decide) (fun h => absurd h (by decide)) (fun _ => ?_)
  refine wp_iconst dJ0_isLatin1_aae02_13 (by decide) ?_
  refine wp_goto (tgt := 18) dJ0_isLatin1_aae02_14 (by decide) ?_
  refine wp_zret rfl (by omega) dJ0_isLatin1_aae02_18 ?_
  refine wp_if_eq (tgt := 16) dJ0_charAt_5068e_4 (by decide) (fun h => absurd h (by decide)) (fun _ => ?_)
  refine wp_aload_n dJ0_charAt_5068e_7 rfl rfl ?_
  refine wp_strV 2 rfl (by decide) wl_RJ0_9 dJ0_charAt_5068e_8 ?_
  refine wp_iload_n dJ0_charAt_5068e_11 rfl rfl ?_
  refine wp_callS0 (d' := d - 1) cs_RJ0_495 [(2, 1102), (0, (i : Int))] [] rfl rfl (Nat.le_of_ble_eq_true rfl) dJ0_charAt_5068e_12 rfl (Nat.le_of_ble_eq_true rfl) (by omega) (loc1 := [(2, 1102), (0, (i : Int))]) rfl ?_
  refine wp_iload_n dJ1_charAt_3b067_0 rfl rfl ?_
  refine wp_aload_n dJ1_charAt_3b067_1 rfl rfl ?_
  refine wp_alenK 2 rfl (by decide) dJ1_charAt_3b067_2 ?_
  change Wp _ _ _ _ _ _ _ _ ((0, 5) :: _) _ _ _
  refine wp_callS0 (d' := d - 2) cs_RJ1_9 [(0, (i : Int)), (0, 5)] [] rfl rfl (Nat.le_of_ble_eq_true rfl) dJ1_charAt_3b067_3 rfl (Nat.le_of_ble_eq_true rfl) (by omega) (loc1 := [(0, (i : Int)), (0, 5)]) rfl ?_
  refine wp_iload_n dJ0_checkIndex_df160_0 rfl rfl ?_
  refine wp_iload_n dJ0_checkIndex_df160_1 rfl rfl ?_
  refine wp_getsF wl_RJ0_1053 dJ0_checkIndex_df160_2 ?_
  refine wp_callS0 (d' := d - 3) cs_RJ0_1059 [(0, (i : Int)), (0, 5), (2, (fmW g))] [] rfl rfl (Nat.le_of_ble_eq_true rfl) dJ0_checkIndex_df160_5 rfl (Nat.le_of_ble_eq_true rfl) (by omega) (loc1 := [(0, (i : Int)), (0, 5), (2, (fmW g))]) rfl ?_
  refine wp_iload_n dJ3_checkIndex_8e157_0 rfl rfl ?_
  refine wp_if_lt (tgt := 9) dJ3_checkIndex_8e157_1 (by decide) (fun h => absurd h (by omega)) (fun _ => ?_)
  refine wp_iload_n dJ3_checkIndex_8e157_4 rfl rfl ?_
  refine wp_iload_n dJ3_checkIndex_8e157_5 rfl rfl ?_
  refine wp_icmp_lt (tgt := 16) dJ3_checkIndex_8e157_6 (by decide) (fun _ => ?_) (fun h => absurd h (by omega))
  refine wp_iload_n dJ3_checkIndex_8e157_16 rfl rfl ?_
  refine wp_iret rfl dJ3_checkIndex_8e157_17 ?_
  refine wp_pop dJ0_checkIndex_df160_8 (Or.inl rfl) ?_
  refine wp_vret rfl dJ0_checkIndex_df160_9 ?_
  refine wp_aload_n dJ1_charAt_3b067_6 rfl rfl ?_
  refine wp_iload_n dJ1_charAt_3b067_7 rfl rfl ?_
  refine wp_baldK 2 rfl (by decide) ⟨by omega, by show _ < ((5 : Nat) : Int); omega⟩ dJ1_charAt_3b067_8 ?_
  change Wp _ _ _ _ _ _ _ _ ((0, byt 2 i) :: _) _ _ _
  refine wp_sipush dJ1_charAt_3b067_9 (by decide) (by decide) ?_
  refine wp_iand dJ1_charAt_3b067_12 ?_
  refine wp_i2c dJ1_charAt_3b067_13 ?_
  change Wp _ _ _ _ _ _ _ _ ((0, u16 (bnd (byt 2 i) 255)) :: _) _ _ _
  rw [hb.2]
  refine wp_cret rfl (nrw_c hb.1) dJ1_charAt_3b067_14 ?_
  refine wp_cret rfl (nrw_c hb.1) dJ0_charAt_5068e_15 ?_
  exact kk
set_option maxRecDepth 20000 in
set_option maxHeartbeats 4000000 in
theorem sp_charAt_3 {l : Launch} {g : Gw} {d n : Nat} {M : Mm} {Q : Option Wd → Mm → Prop} (hd : 4 ≤ d) {i : Nat} (hi : i < 4) (kk : Q (some (0, byt 3 i)) M) : Wp l g d 0 0 n m_J0_charAt_5068e 0 [] [(2, 1003), (0, (i : Int))] M Q := by
  have hb := byt_r 3 (by decide) i hi
  refine wp_aload_n dJ0_charAt_5068e_0 rfl rfl ?_
  refine wp_callV0 (d' := d - 1) cv_RJ0_492 1003 rfl [] [] rfl rfl (Or.inr ⟨by decide, by decide, rfl⟩) (by omega) (Nat.le_of_ble_eq_true rfl) dJ0_charAt_5068e_1 rfl (Nat.le_of_ble_eq_true rfl) (by omega) (loc1 := [(2, 1003)]) rfl ?_
  refine wp_getsC wl_RJ0_38 dJ0_isLatin1_aae02_0 ?_
  refine wp_if_eq (tgt := 17) dJ0_isLatin1_aae02_3 (by decide) (fun h => absurd h (by decide)) (fun _ => ?_)
  refine wp_aload_n dJ0_isLatin1_aae02_6 rfl rfl ?_
  refine wp_strC 3 rfl (by decide) wl_RJ0_15 dJ0_isLatin1_aae02_7 ?_
  refine wp_if_ne (tgt := 17) dJ0_isLatin1_aae02_10 (by decide) (fun h => absurd h (by decide)) (fun _ => ?_)
  refine wp_iconst dJ0_isLatin1_aae02_13 (by decide) ?_
  refine wp_goto (tgt := 18) dJ0_isLatin1_aae02_14 (by decide) ?_
  refine wp_zret rfl (by omega) dJ0_isLatin1_aae02_18 ?_
  refine wp_if_eq (tgt := 16) dJ0_charAt_5068e_4 (by decide) (fun h => absurd h (by decide)) (fun _ => ?_)
  refine wp_aload_n dJ0_charAt_5068e_7 rfl rfl ?_
  refine wp_strV 3 rfl (by decide) wl_RJ0_9 dJ0_charAt_5068e_8 ?_
  refine wp_iload_n dJ0_charAt_5068e_11 rfl rfl ?_
  refine wp_callS0 (d' := d - 1) cs_RJ0_495 [(2, 1103), (0, (i : Int))] [] rfl rfl (Nat.le_of_ble_eq_true rfl) dJ0_charAt_5068e_12 rfl (Nat.le_of_ble_eq_true rfl) (by omega) (loc1 := [(2, 1103), (0, (i : Int))]) rfl ?_
  refine wp_iload_n dJ1_charAt_3b067_0 rfl rfl ?_
  refine wp_aload_n dJ1_charAt_3b067_1 rfl rfl ?_
  refine wp_alenK 3 rfl (by decide) dJ1_charAt_3b067_2 ?_
  change Wp _ _ _ _ _ _ _ _ ((0, 4) :: _) _ _ _
  refine wp_callS0 (d' := d - 2) cs_RJ1_9 [(0, (i : Int)), (0, 4)] [] rfl rfl (Nat.le_of_ble_eq_true rfl) dJ1_charAt_3b067_3 rfl (Nat.le_of_ble_eq_true rfl) (by omega) (loc1 := [(0, (i : Int)), (0, 4)]) rfl ?_
  refine wp_iload_n dJ0_checkIndex_df160_0 rfl rfl ?_
  refine wp_iload_n dJ0_checkIndex_df160_1 rfl rfl ?_
  refine wp_getsF wl_RJ0_1053 dJ0_checkIndex_df160_2 ?_
  refine wp_callS0 (d' := d - 3) cs_RJ0_1059 [(0, (i : Int)), (0, 4), (2, (fmW g))] [] rfl rfl (Nat.le_of_ble_eq_true rfl) dJ0_checkIndex_df160_5 rfl (Nat.le_of_ble_eq_true rfl) (by omega) (loc1 := [(0, (i : Int)), (0, 4), (2, (fmW g))]) rfl ?_
  refine wp_iload_n dJ3_checkIndex_8e157_0 rfl rfl ?_
  refine wp_if_lt (tgt := 9) dJ3_checkIndex_8e157_1 (by decide) (fun h => absurd h (by omega)) (fun _ => ?_)
  refine wp_iload_n dJ3_checkIndex_8e157_4 rfl rfl ?_
  refine wp_iload_n dJ3_checkIndex_8e157_5 rfl rfl ?_
  refine wp_icmp_lt (tgt := 16) dJ3_checkIndex_8e157_6 (by decide) (fun _ => ?_) (fun h => absurd h (by omega))
  refine wp_iload_n dJ3_checkIndex_8e157_16 rfl rfl ?_
  refine wp_iret rfl dJ3_checkIndex_8e157_17 ?_
  refine wp_pop dJ0_checkIndex_df160_8 (Or.inl rfl) ?_
  refine wp_vret rfl dJ0_checkIndex_df160_9 ?_
  refine wp_aload_n dJ1_charAt_3b067_6 rfl rfl ?_
  refine wp_iload_n dJ1_charAt_3b067_7 rfl rfl ?_
  refine wp_baldK 3 rfl (by decide) ⟨by omega, by show _ < ((4 : Nat) : Int); omega⟩ dJ1_charAt_3b067_8 ?_
  change Wp _ _ _ _ _ _ _ _ ((0, byt 3 i) :: _) _ _ _
  refine wp_sipush dJ1_charAt_3b067_9 (by decide) (by decide) ?_
  refine wp_iand dJ1_charAt_3b067_12 ?_
  refine wp_i2c dJ1_charAt_3b067_13 ?_
  change Wp _ _ _ _ _ _ _ _ ((0, u16 (bnd (byt 3 i) 255)) :: _) _ _ _
  rw [hb.2]
  refine wp_cret rfl (nrw_c hb.1) dJ1_charAt_3b067_14 ?_
  refine wp_cret rfl (nrw_c hb.1) dJ0_charAt_5068e_15 ?_
  exact kk
set_option maxRecDepth 20000 in
set_option maxHeartbeats 4000000 in
theorem sp_charAt_4 {l : Launch} {g : Gw} {d n : Nat} {M : Mm} {Q : Option Wd → Mm → Prop} (hd : 4 ≤ d) {i : Nat} (hi : i < 2) (kk : Q (some (0, byt 4 i)) M) : Wp l g d 0 0 n m_J0_charAt_5068e 0 [] [(2, 1004), (0, (i : Int))] M Q := by
  have hb := byt_r 4 (by decide) i hi
  refine wp_aload_n dJ0_charAt_5068e_0 rfl rfl ?_
  refine wp_callV0 (d' := d - 1) cv_RJ0_492 1004 rfl [] [] rfl rfl (Or.inr ⟨by decide, by decide, rfl⟩) (by omega) (Nat.le_of_ble_eq_true rfl) dJ0_charAt_5068e_1 rfl (Nat.le_of_ble_eq_true rfl) (by omega) (loc1 := [(2, 1004)]) rfl ?_
  refine wp_getsC wl_RJ0_38 dJ0_isLatin1_aae02_0 ?_
  refine wp_if_eq (tgt := 17) dJ0_isLatin1_aae02_3 (by decide) (fun h => absurd h (by decide)) (fun _ => ?_)
  refine wp_aload_n dJ0_isLatin1_aae02_6 rfl rfl ?_
  refine wp_strC 4 rfl (by decide) wl_RJ0_15 dJ0_isLatin1_aae02_7 ?_
  refine wp_if_ne (tgt := 17) dJ0_isLatin1_aae02_10 (by decide) (fun h => absurd h (by decide)) (fun _ => ?_)
  refine wp_iconst dJ0_isLatin1_aae02_13 (by decide) ?_
  refine wp_goto (tgt := 18) dJ0_isLatin1_aae02_14 (by decide) ?_
  refine wp_zret rfl (by omega) dJ0_isLatin1_aae02_18 ?_
  refine wp_if_eq (tgt := 16) dJ0_charAt_5068e_4 (by decide) (fun h => absurd h (by decide)) (fun _ => ?_)
  refine wp_aload_n dJ0_charAt_5068e_7 rfl rfl ?_
  refine wp_strV 4 rfl (by decide) wl_RJ0_9 dJ0_charAt_5068e_8 ?_
  refine wp_iload_n dJ0_charAt_5068e_11 rfl rfl ?_
  refine wp_callS0 (d' := d - 1) cs_RJ0_495 [(2, 1104), (0, (i : Int))] [] rfl rfl (Nat.le_of_ble_eq_true rfl) dJ0_charAt_5068e_12 rfl (Nat.le_of_ble_eq_true rfl) (by omega) (loc1 := [(2, 1104), (0, (i : Int))]) rfl ?_
  refine wp_iload_n dJ1_charAt_3b067_0 rfl rfl ?_
  refine wp_aload_n dJ1_charAt_3b067_1 rfl rfl ?_
  refine wp_alenK 4 rfl (by decide) dJ1_charAt_3b067_2 ?_
  change Wp _ _ _ _ _ _ _ _ ((0, 2) :: _) _ _ _
  refine wp_callS0 (d' := d - 2) cs_RJ1_9 [(0, (i : Int)), (0, 2)] [] rfl rfl (Nat.le_of_ble_eq_true rfl) dJ1_charAt_3b067_3 rfl (Nat.le_of_ble_eq_true rfl) (by omega) (loc1 := [(0, (i : Int)), (0, 2)]) rfl ?_
  refine wp_iload_n dJ0_checkIndex_df160_0 rfl rfl ?_
  refine wp_iload_n dJ0_checkIndex_df160_1 rfl rfl ?_
  refine wp_getsF wl_RJ0_1053 dJ0_checkIndex_df160_2 ?_
  refine wp_callS0 (d' := d - 3) cs_RJ0_1059 [(0, (i : Int)), (0, 2), (2, (fmW g))] [] rfl rfl (Nat.le_of_ble_eq_true rfl) dJ0_checkIndex_df160_5 rfl (Nat.le_of_ble_eq_true rfl) (by omega) (loc1 := [(0, (i : Int)), (0, 2), (2, (fmW g))]) rfl ?_
  refine wp_iload_n dJ3_checkIndex_8e157_0 rfl rfl ?_
  refine wp_if_lt (tgt := 9) dJ3_checkIndex_8e157_1 (by decide) (fun h => absurd h (by omega)) (fun _ => ?_)
  refine wp_iload_n dJ3_checkIndex_8e157_4 rfl rfl ?_
  refine wp_iload_n dJ3_checkIndex_8e157_5 rfl rfl ?_
  refine wp_icmp_lt (tgt := 16) dJ3_checkIndex_8e157_6 (by decide) (fun _ => ?_) (fun h => absurd h (by omega))
  refine wp_iload_n dJ3_checkIndex_8e157_16 rfl rfl ?_
  refine wp_iret rfl dJ3_checkIndex_8e157_17 ?_
  refine wp_pop dJ0_checkIndex_df160_8 (Or.inl rfl) ?_
  refine wp_vret rfl dJ0_checkIndex_df160_9 ?_
  refine wp_aload_n dJ1_charAt_3b067_6 rfl rfl ?_
  refine wp_iload_n dJ1_charAt_3b067_7 rfl rfl ?_
  refine wp_baldK 4 rfl (by decide) ⟨by omega, by show _ < ((2 : Nat) : Int); omega⟩ dJ1_charAt_3b067_8 ?_
  change Wp _ _ _ _ _ _ _ _ ((0, byt 4 i) :: _) _ _ _
  refine wp_sipush dJ1_charAt_3b067_9 (by decide) (by decide) ?_
  refine wp_iand dJ1_charAt_3b067_12 ?_
  refine wp_i2c dJ1_charAt_3b067_13 ?_
  change Wp _ _ _ _ _ _ _ _ ((0, u16 (bnd (byt 4 i) 255)) :: _) _ _ _
  rw [hb.2]
  refine wp_cret rfl (nrw_c hb.1) dJ1_charAt_3b067_14 ?_
  refine wp_cret rfl (nrw_c hb.1) dJ0_charAt_5068e_15 ?_
  exact kk
set_option maxRecDepth 20000 in
set_option maxHeartbeats 4000000 in
theorem sp_charAt_5 {l : Launch} {g : Gw} {d n : Nat} {M : Mm} {Q : Option Wd → Mm → Prop} (hd : 4 ≤ d) {i : Nat} (hi : i < 3) (kk : Q (some (0, byt 5 i)) M) : Wp l g d 0 0 n m_J0_charAt_5068e 0 [] [(2, 1005), (0, (i : Int))] M Q := by
  have hb := byt_r 5 (by decide) i hi
  refine wp_aload_n dJ0_charAt_5068e_0 rfl rfl ?_
  refine wp_callV0 (d' := d - 1) cv_RJ0_492 1005 rfl [] [] rfl rfl (Or.inr ⟨by decide, by decide, rfl⟩) (by omega) (Nat.le_of_ble_eq_true rfl) dJ0_charAt_5068e_1 rfl (Nat.le_of_ble_eq_true rfl) (by omega) (loc1 := [(2, 1005)]) rfl ?_
  refine wp_getsC wl_RJ0_38 dJ0_isLatin1_aae02_0 ?_
  refine wp_if_eq (tgt := 17) dJ0_isLatin1_aae02_3 (by decide) (fun h => absurd h (by decide)) (fun _ => ?_)
  refine wp_aload_n dJ0_isLatin1_aae02_6 rfl rfl ?_
  refine wp_strC 5 rfl (by decide) wl_RJ0_15 dJ0_isLatin1_aae02_7 ?_
  refine wp_if_ne (tgt := 17) dJ0_isLatin1_aae02_10 (by decide) (fun h => absurd h (by decide)) (fun _ => ?_)
  refine wp_iconst dJ0_isLatin1_aae02_13 (by decide) ?_
  refine wp_goto (tgt := 18) dJ0_isLatin1_aae02_14 (by decide) ?_
  refine wp_zret rfl (by omega) dJ0_isLatin1_aae02_18 ?_
  refine wp_if_eq (tgt := 16) dJ0_charAt_5068e_4 (by decide) (fun h => absurd h (by decide)) (fun _ => ?_)
  refine wp_aload_n dJ0_charAt_5068e_7 rfl rfl ?_
  refine wp_strV 5 rfl (by decide) wl_RJ0_9 dJ0_charAt_5068e_8 ?_
  refine wp_iload_n dJ0_charAt_5068e_11 rfl rfl ?_
  refine wp_callS0 (d' := d - 1) cs_RJ0_495 [(2, 1105), (0, (i : Int))] [] rfl rfl (Nat.le_of_ble_eq_true rfl) dJ0_charAt_5068e_12 rfl (Nat.le_of_ble_eq_true rfl) (by omega) (loc1 := [(2, 1105), (0, (i : Int))]) rfl ?_
  refine wp_iload_n dJ1_charAt_3b067_0 rfl rfl ?_
  refine wp_aload_n dJ1_charAt_3b067_1 rfl rfl ?_
  refine wp_alenK 5 rfl (by decide) dJ1_charAt_3b067_2 ?_
  change Wp _ _ _ _ _ _ _ _ ((0, 3) :: _) _ _ _
  refine wp_callS0 (d' := d - 2) cs_RJ1_9 [(0, (i : Int)), (0, 3)] [] rfl rfl (Nat.le_of_ble_eq_true rfl) dJ1_charAt_3b067_3 rfl (Nat.le_of_ble_eq_true rfl) (by omega) (loc1 := [(0, (i : Int)), (0, 3)]) rfl ?_
  refine wp_iload_n dJ0_checkIndex_df160_0 rfl rfl ?_
  refine wp_iload_n dJ0_checkIndex_df160_1 rfl rfl ?_
  refine wp_getsF wl_RJ0_1053 dJ0_checkIndex_df160_2 ?_
  refine wp_callS0 (d' := d - 3) cs_RJ0_1059 [(0, (i : Int)), (0, 3), (2, (fmW g))] [] rfl rfl (Nat.le_of_ble_eq_true rfl) dJ0_checkIndex_df160_5 rfl (Nat.le_of_ble_eq_true rfl) (by omega) (loc1 := [(0, (i : Int)), (0, 3), (2, (fmW g))]) rfl ?_
  refine wp_iload_n dJ3_checkIndex_8e157_0 rfl rfl ?_
  refine wp_if_lt (tgt := 9) dJ3_checkIndex_8e157_1 (by decide) (fun h => absurd h (by omega)) (fun _ => ?_)
  refine wp_iload_n dJ3_checkIndex_8e157_4 rfl rfl ?_
  refine wp_iload_n dJ3_checkIndex_8e157_5 rfl rfl ?_
  refine wp_icmp_lt (tgt := 16) dJ3_checkIndex_8e157_6 (by decide) (fun _ => ?_) (fun h => absurd h (by omega))
  refine wp_iload_n dJ3_checkIndex_8e157_16 rfl rfl ?_
  refine wp_iret rfl dJ3_checkIndex_8e157_17 ?_
  refine wp_pop dJ0_checkIndex_df160_8 (Or.inl rfl) ?_
  refine wp_vret rfl dJ0_checkIndex_df160_9 ?_
  refine wp_aload_n dJ1_charAt_3b067_6 rfl rfl ?_
  refine wp_iload_n dJ1_charAt_3b067_7 rfl rfl ?_
  refine wp_baldK 5 rfl (by decide) ⟨by omega, by show _ < ((3 : Nat) : Int); omega⟩ dJ1_charAt_3b067_8 ?_
  change Wp _ _ _ _ _ _ _ _ ((0, byt 5 i) :: _) _ _ _
  refine wp_sipush dJ1_charAt_3b067_9 (by decide) (by decide) ?_
  refine wp_iand dJ1_charAt_3b067_12 ?_
  refine wp_i2c dJ1_charAt_3b067_13 ?_
  change Wp _ _ _ _ _ _ _ _ ((0, u16 (bnd (byt 5 i) 255)) :: _) _ _ _
  rw [hb.2]
  refine wp_cret rfl (nrw_c hb.1) dJ1_charAt_3b067_14 ?_
  refine wp_cret rfl (nrw_c hb.1) dJ0_charAt_5068e_15 ?_
  exact kk
set_option maxRecDepth 20000 in
set_option maxHeartbeats 4000000 in
theorem sp_charAt_6 {l : Launch} {g : Gw} {d n : Nat} {M : Mm} {Q : Option Wd → Mm → Prop} (hd : 4 ≤ d) {i : Nat} (hi : i < 3) (kk : Q (some (0, byt 6 i)) M) : Wp l g d 0 0 n m_J0_charAt_5068e 0 [] [(2, 1006), (0, (i : Int))] M Q := by
  have hb := byt_r 6 (by decide) i hi
  refine wp_aload_n dJ0_charAt_5068e_0 rfl rfl ?_
  refine wp_callV0 (d' := d - 1) cv_RJ0_492 1006 rfl [] [] rfl rfl (Or.inr ⟨by decide, by decide, rfl⟩) (by omega) (Nat.le_of_ble_eq_true rfl) dJ0_charAt_5068e_1 rfl (Nat.le_of_ble_eq_true rfl) (by omega) (loc1 := [(2, 1006)]) rfl ?_
  refine wp_getsC wl_RJ0_38 dJ0_isLatin1_aae02_0 ?_
  refine wp_if_eq (tgt := 17) dJ0_isLatin1_aae02_3 (by decide) (fun h => absurd h (by decide)) (fun _ => ?_)
  refine wp_aload_n dJ0_isLatin1_aae02_6 rfl rfl ?_
  refine wp_strC 6 rfl (by decide) wl_RJ0_15 dJ0_isLatin1_aae02_7 ?_
  refine wp_if_ne (tgt := 17) dJ0_isLatin1_aae02_10 (by decide) (fun h => absurd h (by decide)) (fun _ => ?_)
  refine wp_iconst dJ0_isLatin1_aae02_13 (by decide) ?_
  refine wp_goto (tgt := 18) dJ0_isLatin1_aae02_14 (by decide) ?_
  refine wp_zret rfl (by omega) dJ0_isLatin1_aae02_18 ?_
  refine wp_if_eq (tgt := 16) dJ0_charAt_5068e_4 (by decide) (fun h => absurd h (by decide)) (fun _ => ?_)
  refine wp_aload_n dJ0_charAt_5068e_7 rfl rfl ?_
  refine wp_strV 6 rfl (by decide) wl_RJ0_9 dJ0_charAt_5068e_8 ?_
  refine wp_iload_n dJ0_charAt_5068e_11 rfl rfl ?_
  refine wp_callS0 (d' := d - 1) cs_RJ0_495 [(2, 1106), (0, (i : Int))] [] rfl rfl (Nat.le_of_ble_eq_true rfl) dJ0_charAt_5068e_12 rfl (Nat.le_of_ble_eq_true rfl) (by omega) (loc1 := [(2, 1106), (0, (i : Int))]) rfl ?_
  refine wp_iload_n dJ1_charAt_3b067_0 rfl rfl ?_
  refine wp_aload_n dJ1_charAt_3b067_1 rfl rfl ?_
  refine wp_alenK 6 rfl (by decide) dJ1_charAt_3b067_2 ?_
  change Wp _ _ _ _ _ _ _ _ ((0, 3) :: _) _ _ _
  refine wp_callS0 (d' := d - 2) cs_RJ1_9 [(0, (i : Int)), (0, 3)] [] rfl rfl (Nat.le_of_ble_eq_true rfl) dJ1_charAt_3b067_3 rfl (Nat.le_of_ble_eq_true rfl) (by omega) (loc1 := [(0, (i : Int)), (0, 3)]) rfl ?_
  refine wp_iload_n dJ0_checkIndex_df160_0 rfl rfl ?_
  refine wp_iload_n dJ0_checkIndex_df160_1 rfl rfl ?_
  refine wp_getsF wl_RJ0_1053 dJ0_checkIndex_df160_2 ?_
  refine wp_callS0 (d' := d - 3) cs_RJ0_1059 [(0, (i : Int)), (0, 3), (2, (fmW g))] [] rfl rfl (Nat.le_of_ble_eq_true rfl) dJ0_checkIndex_df160_5 rfl (Nat.le_of_ble_eq_true rfl) (by omega) (loc1 := [(0, (i : Int)), (0, 3), (2, (fmW g))]) rfl ?_
  refine wp_iload_n dJ3_checkIndex_8e157_0 rfl rfl ?_
  refine wp_if_lt (tgt := 9) dJ3_checkIndex_8e157_1 (by decide) (fun h => absurd h (by omega)) (fun _ => ?_)
  refine wp_iload_n dJ3_checkIndex_8e157_4 rfl rfl ?_
  refine wp_iload_n dJ3_checkIndex_8e157_5 rfl rfl ?_
  refine wp_icmp_lt (tgt := 16) dJ3_checkIndex_8e157_6 (by decide) (fun _ => ?_) (fun h => absurd h (by omega))
  refine wp_iload_n dJ3_checkIndex_8e157_16 rfl rfl ?_
  refine wp_iret rfl dJ3_checkIndex_8e157_17 ?_
  refine wp_pop dJ0_checkIndex_df160_8 (Or.inl rfl) ?_
  refine wp_vret rfl dJ0_checkIndex_df160_9 ?_
  refine wp_aload_n dJ1_charAt_3b067_6 rfl rfl ?_
  refine wp_iload_n dJ1_charAt_3b067_7 rfl rfl ?_
  refine wp_baldK 6 rfl (by decide) ⟨by omega, by show _ < ((3 : Nat) : Int); omega⟩ dJ1_charAt_3b067_8 ?_
  change Wp _ _ _ _ _ _ _ _ ((0, byt 6 i) :: _) _ _ _
  refine wp_sipush dJ1_charAt_3b067_9 (by decide) (by decide) ?_
  refine wp_iand dJ1_charAt_3b067_12 ?_
  refine wp_i2c dJ1_charAt_3b067_13 ?_
  change Wp _ _ _ _ _ _ _ _ ((0, u16 (bnd (byt 6 i) 255)) :: _) _ _ _
  rw [hb.2]
  refine wp_cret rfl (nrw_c hb.1) dJ1_charAt_3b067_14 ?_
  refine wp_cret rfl (nrw_c hb.1) dJ0_charAt_5068e_15 ?_
  exact kk
set_option maxRecDepth 20000 in
set_option maxHeartbeats 4000000 in
theorem sp_charAt_7 {l : Launch} {g : Gw} {d n : Nat} {M : Mm} {Q : Option Wd → Mm → Prop} (hd : 4 ≤ d) {i : Nat} (hi : i < 5) (kk : Q (some (0, byt 7 i)) M) : Wp l g d 0 0 n m_J0_charAt_5068e 0 [] [(2, 1007), (0, (i : Int))] M Q := by
  have hb := byt_r 7 (by decide) i hi
  refine wp_aload_n dJ0_charAt_5068e_0 rfl rfl ?_
  refine wp_callV0 (d' := d - 1) cv_RJ0_492 1007 rfl [] [] rfl rfl (Or.inr ⟨by decide, by decide, rfl⟩) (by omega) (Nat.le_of_ble_eq_true rfl) dJ0_charAt_5068e_1 rfl (Nat.le_of_ble_eq_true rfl) (by omega) (loc1 := [(2, 1007)]) rfl ?_
  refine wp_getsC wl_RJ0_38 dJ0_isLatin1_aae02_0 ?_
  refine wp_if_eq (tgt := 17) dJ0_isLatin1_aae02_3 (by decide) (fun h => absurd h (by decide)) (fun _ => ?_)
  refine wp_aload_n dJ0_isLatin1_aae02_6 rfl rfl ?_
  refine wp_strC 7 rfl (by decide) wl_RJ0_15 dJ0_isLatin1_aae02_7 ?_
  refine wp_if_ne (tgt := 17) dJ0_isLatin1_aae02_10 (by decide) (fun h => absurd h (by decide)) (fun _ => ?_)
  refine wp_iconst dJ0_isLatin1_aae02_13 (by decide) ?_
  refine wp_goto (tgt := 18) dJ0_isLatin1_aae02_14 (by decide) ?_
  refine wp_zret rfl (by omega) dJ0_isLatin1_aae02_18 ?_
  refine wp_if_eq (tgt := 16) dJ0_charAt_5068e_4 (by decide) (fun h => absurd h (by decide)) (fun _ => ?_)
  refine wp_aload_n dJ0_charAt_5068e_7 rfl rfl ?_
  refine wp_strV 7 rfl (by decide) wl_RJ0_9 dJ0_charAt_5068e_8 ?_
  refine wp_iload_n dJ0_charAt_5068e_11 rfl rfl ?_
  refine wp_callS0 (d' := d - 1) cs_RJ0_495 [(2, 1107), (0, (i : Int))] [] rfl rfl (Nat.le_of_ble_eq_true rfl) dJ0_charAt_5068e_12 rfl (Nat.le_of_ble_eq_true rfl) (by omega) (loc1 := [(2, 1107), (0, (i : Int))]) rfl ?_
  refine wp_iload_n dJ1_charAt_3b067_0 rfl rfl ?_
  refine wp_aload_n dJ1_charAt_3b067_1 rfl rfl ?_
  refine wp_alenK 7 rfl (by decide) dJ1_charAt_3b067_2 ?_
  change Wp _ _ _ _ _ _ _ _ ((0, 5) :: _) _ _ _
  refine wp_callS0 (d' := d - 2) cs_RJ1_9 [(0, (i : Int)), (0, 5)] [] rfl rfl (Nat.le_of_ble_eq_true rfl) dJ1_charAt_3b067_3 rfl (Nat.le_of_ble_eq_true rfl) (by omega) (loc1 := [(0, (i : Int)), (0, 5)]) rfl ?_
  refine wp_iload_n dJ0_checkIndex_df160_0 rfl rfl ?_
  refine wp_iload_n dJ0_checkIndex_df160_1 rfl rfl ?_
  refine wp_getsF wl_RJ0_1053 dJ0_checkIndex_df160_2 ?_
  refine wp_callS0 (d' := d - 3) cs_RJ0_1059 [(0, (i : Int)), (0, 5), (2, (fmW g))] [] rfl rfl (Nat.le_of_ble_eq_true rfl) dJ0_checkIndex_df160_5 rfl (Nat.le_of_ble_eq_true rfl) (by omega) (loc1 := [(0, (i : Int)), (0, 5), (2, (fmW g))]) rfl ?_
  refine wp_iload_n dJ3_checkIndex_8e157_0 rfl rfl ?_
  refine wp_if_lt (tgt := 9) dJ3_checkIndex_8e157_1 (by decide) (fun h => absurd h (by omega)) (fun _ => ?_)
  refine wp_iload_n dJ3_checkIndex_8e157_4 rfl rfl ?_
  refine wp_iload_n dJ3_checkIndex_8e157_5 rfl rfl ?_
  refine wp_icmp_lt (tgt := 16) dJ3_checkIndex_8e157_6 (by decide) (fun _ => ?_) (fun h => absurd h (by omega))
  refine wp_iload_n dJ3_checkIndex_8e157_16 rfl rfl ?_
  refine wp_iret rfl dJ3_checkIndex_8e157_17 ?_
  refine wp_pop dJ0_checkIndex_df160_8 (Or.inl rfl) ?_
  refine wp_vret rfl dJ0_checkIndex_df160_9 ?_
  refine wp_aload_n dJ1_charAt_3b067_6 rfl rfl ?_
  refine wp_iload_n dJ1_charAt_3b067_7 rfl rfl ?_
  refine wp_baldK 7 rfl (by decide) ⟨by omega, by show _ < ((5 : Nat) : Int); omega⟩ dJ1_charAt_3b067_8 ?_
  change Wp _ _ _ _ _ _ _ _ ((0, byt 7 i) :: _) _ _ _
  refine wp_sipush dJ1_charAt_3b067_9 (by decide) (by decide) ?_
  refine wp_iand dJ1_charAt_3b067_12 ?_
  refine wp_i2c dJ1_charAt_3b067_13 ?_
  change Wp _ _ _ _ _ _ _ _ ((0, u16 (bnd (byt 7 i) 255)) :: _) _ _ _
  rw [hb.2]
  refine wp_cret rfl (nrw_c hb.1) dJ1_charAt_3b067_14 ?_
  refine wp_cret rfl (nrw_c hb.1) dJ0_charAt_5068e_15 ?_
  exact kk
set_option maxRecDepth 20000 in
set_option maxHeartbeats 4000000 in
theorem sp_charAt_8 {l : Launch} {g : Gw} {d n : Nat} {M : Mm} {Q : Option Wd → Mm → Prop} (hd : 4 ≤ d) {i : Nat} (hi : i < 6) (kk : Q (some (0, byt 8 i)) M) : Wp l g d 0 0 n m_J0_charAt_5068e 0 [] [(2, 1008), (0, (i : Int))] M Q := by
  have hb := byt_r 8 (by decide) i hi
  refine wp_aload_n dJ0_charAt_5068e_0 rfl rfl ?_
  refine wp_callV0 (d' := d - 1) cv_RJ0_492 1008 rfl [] [] rfl rfl (Or.inr ⟨by decide, by decide, rfl⟩) (by omega) (Nat.le_of_ble_eq_true rfl) dJ0_charAt_5068e_1 rfl (Nat.le_of_ble_eq_true rfl) (by omega) (loc1 := [(2, 1008)]) rfl ?_
  refine wp_getsC wl_RJ0_38 dJ0_isLatin1_aae02_0 ?_
  refine wp_if_eq (tgt := 17) dJ0_isLatin1_aae02_3 (by decide) (fun h => absurd h (by decide)) (fun _ => ?_)
  refine wp_aload_n dJ0_isLatin1_aae02_6 rfl rfl ?_
  refine wp_strC 8 rfl (by decide) wl_RJ0_15 dJ0_isLatin1_aae02_7 ?_
  refine wp_if_ne (tgt := 17) dJ0_isLatin1_aae02_10 (by decide) (fun h => absurd h (by decide)) (fun _ => ?_)
  refine wp_iconst dJ0_isLatin1_aae02_13 (by decide) ?_
  refine wp_goto (tgt := 18) dJ0_isLatin1_aae02_14 (by decide) ?_
  refine wp_zret rfl (by omega) dJ0_isLatin1_aae02_18 ?_
  refine wp_if_eq (tgt := 16) dJ0_charAt_5068e_4 (by decide) (fun h => absurd h (by decide)) (fun _ => ?_)
  refine wp_aload_n dJ0_charAt_5068e_7 rfl rfl ?_
  refine wp_strV 8 rfl (by decide) wl_RJ0_9 dJ0_charAt_5068e_8 ?_
  refine wp_iload_n dJ0_charAt_5068e_11 rfl rfl ?_
  refine wp_callS0 (d' := d - 1) cs_RJ0_495 [(2, 1108), (0, (i : Int))] [] rfl rfl (Nat.le_of_ble_eq_true rfl) dJ0_charAt_5068e_12 rfl (Nat.le_of_ble_eq_true rfl) (by omega) (loc1 := [(2, 1108), (0, (i : Int))]) rfl ?_
  refine wp_iload_n dJ1_charAt_3b067_0 rfl rfl ?_
  refine wp_aload_n dJ1_charAt_3b067_1 rfl rfl ?_
  refine wp_alenK 8 rfl (by decide) dJ1_charAt_3b067_2 ?_
  change Wp _ _ _ _ _ _ _ _ ((0, 6) :: _) _ _ _
  refine wp_callS0 (d' := d - 2) cs_RJ1_9 [(0, (i : Int)), (0, 6)] [] rfl rfl (Nat.le_of_ble_eq_true rfl) dJ1_charAt_3b067_3 rfl (Nat.le_of_ble_eq_true rfl) (by omega) (loc1 := [(0, (i : Int)), (0, 6)]) rfl ?_
  refine wp_iload_n dJ0_checkIndex_df160_0 rfl rfl ?_
  refine wp_iload_n dJ0_checkIndex_df160_1 rfl rfl ?_
  refine wp_getsF wl_RJ0_1053 dJ0_checkIndex_df160_2 ?_
  refine wp_callS0 (d' := d - 3) cs_RJ0_1059 [(0, (i : Int)), (0, 6), (2, (fmW g))] [] rfl rfl (Nat.le_of_ble_eq_true rfl) dJ0_checkIndex_df160_5 rfl (Nat.le_of_ble_eq_true rfl) (by omega) (loc1 := [(0, (i : Int)), (0, 6), (2, (fmW g))]) rfl ?_
  refine wp_iload_n dJ3_checkIndex_8e157_0 rfl rfl ?_
  refine wp_if_lt (tgt := 9) dJ3_checkIndex_8e157_1 (by decide) (fun h => absurd h (by omega)) (fun _ => ?_)
  refine wp_iload_n dJ3_checkIndex_8e157_4 rfl rfl ?_
  refine wp_iload_n dJ3_checkIndex_8e157_5 rfl rfl ?_
  refine wp_icmp_lt (tgt := 16) dJ3_checkIndex_8e157_6 (by decide) (fun _ => ?_) (fun h => absurd h (by omega))
  refine wp_iload_n dJ3_checkIndex_8e157_16 rfl rfl ?_
  refine wp_iret rfl dJ3_checkIndex_8e157_17 ?_
  refine wp_pop dJ0_checkIndex_df160_8 (Or.inl rfl) ?_
  refine wp_vret rfl dJ0_checkIndex_df160_9 ?_
  refine wp_aload_n dJ1_charAt_3b067_6 rfl rfl ?_
  refine wp_iload_n dJ1_charAt_3b067_7 rfl rfl ?_
  refine wp_baldK 8 rfl (by decide) ⟨by omega, by show _ < ((6 : Nat) : Int); omega⟩ dJ1_charAt_3b067_8 ?_
  change Wp _ _ _ _ _ _ _ _ ((0, byt 8 i) :: _) _ _ _
  refine wp_sipush dJ1_charAt_3b067_9 (by decide) (by decide) ?_
  refine wp_iand dJ1_charAt_3b067_12 ?_
  refine wp_i2c dJ1_charAt_3b067_13 ?_
  change Wp _ _ _ _ _ _ _ _ ((0, u16 (bnd (byt 8 i) 255)) :: _) _ _ _
  rw [hb.2]
  refine wp_cret rfl (nrw_c hb.1) dJ1_charAt_3b067_14 ?_
  refine wp_cret rfl (nrw_c hb.1) dJ0_charAt_5068e_15 ?_
  exact kk
set_option maxRecDepth 20000 in
set_option maxHeartbeats 4000000 in
theorem sp_charAt_9 {l : Launch} {g : Gw} {d n : Nat} {M : Mm} {Q : Option Wd → Mm → Prop} (hd : 4 ≤ d) {i : Nat} (hi : i < 6) (kk : Q (some (0, byt 9 i)) M) : Wp l g d 0 0 n m_J0_charAt_5068e 0 [] [(2, 1009), (0, (i : Int))] M Q := by
  have hb := byt_r 9 (by decide) i hi
  refine wp_aload_n dJ0_charAt_5068e_0 rfl rfl ?_
  refine wp_callV0 (d' := d - 1) cv_RJ0_492 1009 rfl [] [] rfl rfl (Or.inr ⟨by decide, by decide, rfl⟩) (by omega) (Nat.le_of_ble_eq_true rfl) dJ0_charAt_5068e_1 rfl (Nat.le_of_ble_eq_true rfl) (by omega) (loc1 := [(2, 1009)]) rfl ?_
  refine wp_getsC wl_RJ0_38 dJ0_isLatin1_aae02_0 ?_
  refine wp_if_eq (tgt := 17) dJ0_isLatin1_aae02_3 (by decide) (fun h => absurd h (by decide)) (fun _ => ?_)
  refine wp_aload_n dJ0_isLatin1_aae02_6 rfl rfl ?_
  refine wp_strC 9 rfl (by decide) wl_RJ0_15 dJ0_isLatin1_aae02_7 ?_
  refine wp_if_ne (tgt := 17) dJ0_isLatin1_aae02_10 (by decide) (fun h => absurd h (by decide)) (fun _ => ?_)
  refine wp_iconst dJ0_isLatin1_aae02_13 (by decide) ?_
  refine wp_goto (tgt := 18) dJ0_isLatin1_aae02_14 (by decide) ?_
  refine wp_zret rfl (by omega) dJ0_isLatin1_aae02_18 ?_
  refine wp_if_eq (tgt := 16) dJ0_charAt_5068e_4 (by decide) (fun h => absurd h (by decide)) (fun _ => ?_)
  refine wp_aload_n dJ0_charAt_5068e_7 rfl rfl ?_
  refine wp_strV 9 rfl (by decide) wl_RJ0_9 dJ0_charAt_5068e_8 ?_
  refine wp_iload_n dJ0_charAt_5068e_11 rfl rfl ?_
  refine wp_callS0 (d' := d - 1) cs_RJ0_495 [(2, 1109), (0, (i : Int))] [] rfl rfl (Nat.le_of_ble_eq_true rfl) dJ0_charAt_5068e_12 rfl (Nat.le_of_ble_eq_true rfl) (by omega) (loc1 := [(2, 1109), (0, (i : Int))]) rfl ?_
  refine wp_iload_n dJ1_charAt_3b067_0 rfl rfl ?_
  refine wp_aload_n dJ1_charAt_3b067_1 rfl rfl ?_
  refine wp_alenK 9 rfl (by decide) dJ1_charAt_3b067_2 ?_
  change Wp _ _ _ _ _ _ _ _ ((0, 6) :: _) _ _ _
  refine wp_callS0 (d' := d - 2) cs_RJ1_9 [(0, (i : Int)), (0, 6)] [] rfl rfl (Nat.le_of_ble_eq_true rfl) dJ1_charAt_3b067_3 rfl (Nat.le_of_ble_eq_true rfl) (by omega) (loc1 := [(0, (i : Int)), (0, 6)]) rfl ?_
  refine wp_iload_n dJ0_checkIndex_df160_0 rfl rfl ?_
  refine wp_iload_n dJ0_checkIndex_df160_1 rfl rfl ?_
  refine wp_getsF wl_RJ0_1053 dJ0_checkIndex_df160_2 ?_
  refine wp_callS0 (d' := d - 3) cs_RJ0_1059 [(0, (i : Int)), (0, 6), (2, (fmW g))] [] rfl rfl (Nat.le_of_ble_eq_true rfl) dJ0_checkIndex_df160_5 rfl (Nat.le_of_ble_eq_true rfl) (by omega) (loc1 := [(0, (i : Int)), (0, 6), (2, (fmW g))]) rfl ?_
  refine wp_iload_n dJ3_checkIndex_8e157_0 rfl rfl ?_
  refine wp_if_lt (tgt := 9) dJ3_checkIndex_8e157_1 (by decide) (fun h => absurd h (by omega)) (fun _ => ?_)
  refine wp_iload_n dJ3_checkIndex_8e157_4 rfl rfl ?_
  refine wp_iload_n dJ3_checkIndex_8e157_5 rfl rfl ?_
  refine wp_icmp_lt (tgt := 16) dJ3_checkIndex_8e157_6 (by decide) (fun _ => ?_) (fun h => absurd h (by omega))
  refine wp_iload_n dJ3_checkIndex_8e157_16 rfl rfl ?_
  refine wp_iret rfl dJ3_checkIndex_8e157_17 ?_
  refine wp_pop dJ0_checkIndex_df160_8 (Or.inl rfl) ?_
  refine wp_vret rfl dJ0_checkIndex_df160_9 ?_
  refine wp_aload_n dJ1_charAt_3b067_6 rfl rfl ?_
  refine wp_iload_n dJ1_charAt_3b067_7 rfl rfl ?_
  refine wp_baldK 9 rfl (by decide) ⟨by omega, by show _ < ((6 : Nat) : Int); omega⟩ dJ1_charAt_3b067_8 ?_
  change Wp _ _ _ _ _ _ _ _ ((0, byt 9 i) :: _) _ _ _
  refine wp_sipush dJ1_charAt_3b067_9 (by decide) (by decide) ?_
  refine wp_iand dJ1_charAt_3b067_12 ?_
  refine wp_i2c dJ1_charAt_3b067_13 ?_
  change Wp _ _ _ _ _ _ _ _ ((0, u16 (bnd (byt 9 i) 255)) :: _) _ _ _
  rw [hb.2]
  refine wp_cret rfl (nrw_c hb.1) dJ1_charAt_3b067_14 ?_
  refine wp_cret rfl (nrw_c hb.1) dJ0_charAt_5068e_15 ?_
  exact kk
set_option maxRecDepth 20000 in
set_option maxHeartbeats 4000000 in
theorem sp_charAt_10 {l : Launch} {g : Gw} {d n : Nat} {M : Mm} {Q : Option Wd → Mm → Prop} (hd : 4 ≤ d) {i : Nat} (hi : i < 6) (kk : Q (some (0, byt 10 i)) M) : Wp l g d 0 0 n m_J0_charAt_5068e 0 [] [(2, 1010), (0, (i : Int))] M Q := by
  have hb := byt_r 10 (by decide) i hi
  refine wp_aload_n dJ0_charAt_5068e_0 rfl rfl ?_
  refine wp_callV0 (d' := d - 1) cv_RJ0_492 1010 rfl [] [] rfl rfl (Or.inr ⟨by decide, by decide, rfl⟩) (by omega) (Nat.le_of_ble_eq_true rfl) dJ0_charAt_5068e_1 rfl (Nat.le_of_ble_eq_true rfl) (by omega) (loc1 := [(2, 1010)]) rfl ?_
  refine wp_getsC wl_RJ0_38 dJ0_isLatin1_aae02_0 ?_
  refine wp_if_eq (tgt := 17) dJ0_isLatin1_aae02_3 (by decide) (fun h => absurd h (by decide)) (fun _ => ?_)
  refine wp_aload_n dJ0_isLatin1_aae02_6 rfl rfl ?_
  refine wp_strC 10 rfl (by decide) wl_RJ0_15 dJ0_isLatin1_aae02_7 ?_
  refine wp_if_ne (tgt := 17) dJ0_isLatin1_aae02_10 (by decide) (fun h => absurd h (by decide)) (fun _ => ?_)
  refine wp_iconst dJ0_isLatin1_aae02_13 (by decide) ?_
  refine wp_goto (tgt := 18) dJ0_isLatin1_aae02_14 (by decide) ?_
  refine wp_zret rfl (by omega) dJ0_isLatin1_aae02_18 ?_
  refine wp_if_eq (tgt := 16) dJ0_charAt_5068e_4 (by decide) (fun h => absurd h (by decide)) (fun _ => ?_)
  refine wp_aload_n dJ0_charAt_5068e_7 rfl rfl ?_
  refine wp_strV 10 rfl (by decide) wl_RJ0_9 dJ0_charAt_5068e_8 ?_
  refine wp_iload_n dJ0_charAt_5068e_11 rfl rfl ?_
  refine wp_callS0 (d' := d - 1) cs_RJ0_495 [(2, 1110), (0, (i : Int))] [] rfl rfl (Nat.le_of_ble_eq_true rfl) dJ0_charAt_5068e_12 rfl (Nat.le_of_ble_eq_true rfl) (by omega) (loc1 := [(2, 1110), (0, (i : Int))]) rfl ?_
  refine wp_iload_n dJ1_charAt_3b067_0 rfl rfl ?_
  refine wp_aload_n dJ1_charAt_3b067_1 rfl rfl ?_
  refine wp_alenK 10 rfl (by decide) dJ1_charAt_3b067_2 ?_
  change Wp _ _ _ _ _ _ _ _ ((0, 6) :: _) _ _ _
  refine wp_callS0 (d' := d - 2) cs_RJ1_9 [(0, (i : Int)), (0, 6)] [] rfl rfl (Nat.le_of_ble_eq_true rfl) dJ1_charAt_3b067_3 rfl (Nat.le_of_ble_eq_true rfl) (by omega) (loc1 := [(0, (i : Int)), (0, 6)]) rfl ?_
  refine wp_iload_n dJ0_checkIndex_df160_0 rfl rfl ?_
  refine wp_iload_n dJ0_checkIndex_df160_1 rfl rfl ?_
  refine wp_getsF wl_RJ0_1053 dJ0_checkIndex_df160_2 ?_
  refine wp_callS0 (d' := d - 3) cs_RJ0_1059 [(0, (i : Int)), (0, 6), (2, (fmW g))] [] rfl rfl (Nat.le_of_ble_eq_true rfl) dJ0_checkIndex_df160_5 rfl (Nat.le_of_ble_eq_true rfl) (by omega) (loc1 := [(0, (i : Int)), (0, 6), (2, (fmW g))]) rfl ?_
  refine wp_iload_n dJ3_checkIndex_8e157_0 rfl rfl ?_
  refine wp_if_lt (tgt := 9) dJ3_checkIndex_8e157_1 (by decide) (fun h => absurd h (by omega)) (fun _ => ?_)
  refine wp_iload_n dJ3_checkIndex_8e157_4 rfl rfl ?_
  refine wp_iload_n dJ3_checkIndex_8e157_5 rfl rfl ?_
  refine wp_icmp_lt (tgt := 16) dJ3_checkIndex_8e157_6 (by decide) (fun _ => ?_) (fun h => absurd h (by omega))
  refine wp_iload_n dJ3_checkIndex_8e157_16 rfl rfl ?_
  refine wp_iret rfl dJ3_checkIndex_8e157_17 ?_
  refine wp_pop dJ0_checkIndex_df160_8 (Or.inl rfl) ?_
  refine wp_vret rfl dJ0_checkIndex_df160_9 ?_
  refine wp_aload_n dJ1_charAt_3b067_6 rfl rfl ?_
  refine wp_iload_n dJ1_charAt_3b067_7 rfl rfl ?_
  refine wp_baldK 10 rfl (by decide) ⟨by omega, by show _ < ((6 : Nat) : Int); omega⟩ dJ1_charAt_3b067_8 ?_
  change Wp _ _ _ _ _ _ _ _ ((0, byt 10 i) :: _) _ _ _
  refine wp_sipush dJ1_charAt_3b067_9 (by decide) (by decide) ?_
  refine wp_iand dJ1_charAt_3b067_12 ?_
  refine wp_i2c dJ1_charAt_3b067_13 ?_
  change Wp _ _ _ _ _ _ _ _ ((0, u16 (bnd (byt 10 i) 255)) :: _) _ _ _
  rw [hb.2]
  refine wp_cret rfl (nrw_c hb.1) dJ1_charAt_3b067_14 ?_
  refine wp_cret rfl (nrw_c hb.1) dJ0_charAt_5068e_15 ?_
  exact kk
set_option maxRecDepth 20000 in
set_option maxHeartbeats 4000000 in
theorem sp_charAt_11 {l : Launch} {g : Gw} {d n : Nat} {M : Mm} {Q : Option Wd → Mm → Prop} (hd : 4 ≤ d) {i : Nat} (hi : i < 5) (kk : Q (some (0, byt 11 i)) M) : Wp l g d 0 0 n m_J0_charAt_5068e 0 [] [(2, 1011), (0, (i : Int))] M Q := by
  have hb := byt_r 11 (by decide) i hi
  refine wp_aload_n dJ0_charAt_5068e_0 rfl rfl ?_
  refine wp_callV0 (d' := d - 1) cv_RJ0_492 1011 rfl [] [] rfl rfl (Or.inr ⟨by decide, by decide, rfl⟩) (by omega) (Nat.le_of_ble_eq_true rfl) dJ0_charAt_5068e_1 rfl (Nat.le_of_ble_eq_true rfl) (by omega) (loc1 := [(2, 1011)]) rfl ?_
  refine wp_getsC wl_RJ0_38 dJ0_isLatin1_aae02_0 ?_
  refine wp_if_eq (tgt := 17) dJ0_isLatin1_aae02_3 (by decide) (fun h => absurd h (by decide)) (fun _ => ?_)
  refine wp_aload_n dJ0_isLatin1_aae02_6 rfl rfl ?_
  refine wp_strC 11 rfl (by decide) wl_RJ0_15 dJ0_isLatin1_aae02_7 ?_
  refine wp_if_ne (tgt := 17) dJ0_isLatin1_aae02_10 (by decide) (fun h => absurd h (by decide)) (fun _ => ?_)
  refine wp_iconst dJ0_isLatin1_aae02_13 (by decide) ?_
  refine wp_goto (tgt := 18) dJ0_isLatin1_aae02_14 (by decide) ?_
  refine wp_zret rfl (by omega) dJ0_isLatin1_aae02_18 ?_
  refine wp_if_eq (tgt := 16) dJ0_charAt_5068e_4 (by decide) (fun h => absurd h (by decide)) (fun _ => ?_)
  refine wp_aload_n dJ0_charAt_5068e_7 rfl rfl ?_
  refine wp_strV 11 rfl (by decide) wl_RJ0_9 dJ0_charAt_5068e_8 ?_
  refine wp_iload_n dJ0_charAt_5068e_11 rfl rfl ?_
  refine wp_callS0 (d' := d - 1) cs_RJ0_495 [(2, 1111), (0, (i : Int))] [] rfl rfl (Nat.le_of_ble_eq_true rfl) dJ0_charAt_5068e_12 rfl (Nat.le_of_ble_eq_true rfl) (by omega) (loc1 := [(2, 1111), (0, (i : Int))]) rfl ?_
  refine wp_iload_n dJ1_charAt_3b067_0 rfl rfl ?_
  refine wp_aload_n dJ1_charAt_3b067_1 rfl rfl ?_
  refine wp_alenK 11 rfl (by decide) dJ1_charAt_3b067_2 ?_
  change Wp _ _ _ _ _ _ _ _ ((0, 5) :: _) _ _ _
  refine wp_callS0 (d' := d - 2) cs_RJ1_9 [(0, (i : Int)), (0, 5)] [] rfl rfl (Nat.le_of_ble_eq_true rfl) dJ1_charAt_3b067_3 rfl (Nat.le_of_ble_eq_true rfl) (by omega) (loc1 := [(0, (i : Int)), (0, 5)]) rfl ?_
  refine wp_iload_n dJ0_checkIndex_df160_0 rfl rfl ?_
  refine wp_iload_n dJ0_checkIndex_df160_1 rfl rfl ?_
  refine wp_getsF wl_RJ0_1053 dJ0_checkIndex_df160_2 ?_
  refine wp_callS0 (d' := d - 3) cs_RJ0_1059 [(0, (i : Int)), (0, 5), (2, (fmW g))] [] rfl rfl (Nat.le_of_ble_eq_true rfl) dJ0_checkIndex_df160_5 rfl (Nat.le_of_ble_eq_true rfl) (by omega) (loc1 := [(0, (i : Int)), (0, 5), (2, (fmW g))]) rfl ?_
  refine wp_iload_n dJ3_checkIndex_8e157_0 rfl rfl ?_
  refine wp_if_lt (tgt := 9) dJ3_checkIndex_8e157_1 (by decide) (fun h => absurd h (by omega)) (fun _ => ?_)
  refine wp_iload_n dJ3_checkIndex_8e157_4 rfl rfl ?_
  refine wp_iload_n dJ3_checkIndex_8e157_5 rfl rfl ?_
  refine wp_icmp_lt (tgt := 16) dJ3_checkIndex_8e157_6 (by decide) (fun _ => ?_) (fun h => absurd h (by omega))
  refine wp_iload_n dJ3_checkIndex_8e157_16 rfl rfl ?_
  refine wp_iret rfl dJ3_checkIndex_8e157_17 ?_
  refine wp_pop dJ0_checkIndex_df160_8 (Or.inl rfl) ?_
  refine wp_vret rfl dJ0_checkIndex_df160_9 ?_
  refine wp_aload_n dJ1_charAt_3b067_6 rfl rfl ?_
  refine wp_iload_n dJ1_charAt_3b067_7 rfl rfl ?_
  refine wp_baldK 11 rfl (by decide) ⟨by omega, by show _ < ((5 : Nat) : Int); omega⟩ dJ1_charAt_3b067_8 ?_
  change Wp _ _ _ _ _ _ _ _ ((0, byt 11 i) :: _) _ _ _
  refine wp_sipush dJ1_charAt_3b067_9 (by decide) (by decide) ?_
  refine wp_iand dJ1_charAt_3b067_12 ?_
  refine wp_i2c dJ1_charAt_3b067_13 ?_
  change Wp _ _ _ _ _ _ _ _ ((0, u16 (bnd (byt 11 i) 255)) :: _) _ _ _
  rw [hb.2]
  refine wp_cret rfl (nrw_c hb.1) dJ1_charAt_3b067_14 ?_
  refine wp_cret rfl (nrw_c hb.1) dJ0_charAt_5068e_15 ?_
  exact kk
set_option maxRecDepth 20000 in
set_option maxHeartbeats 4000000 in
theorem sp_charAt_12 {l : Launch} {g : Gw} {d n : Nat} {M : Mm} {Q : Option Wd → Mm → Prop} (hd : 4 ≤ d) {i : Nat} (hi : i < 6) (kk : Q (some (0, byt 12 i)) M) : Wp l g d 0 0 n m_J0_charAt_5068e 0 [] [(2, 1012), (0, (i : Int))] M Q := by
  have hb := byt_r 12 (by decide) i hi
  refine wp_aload_n dJ0_charAt_5068e_0 rfl rfl ?_
  refine wp_callV0 (d' := d - 1) cv_RJ0_492 1012 rfl [] [] rfl rfl (Or.inr ⟨by decide, by decide, rfl⟩) (by omega) (Nat.le_of_ble_eq_true rfl) dJ0_charAt_5068e_1 rfl (Nat.le_of_ble_eq_true rfl) (by omega) (loc1 := [(2, 1012)]) rfl ?_
  refine wp_getsC wl_RJ0_38 dJ0_isLatin1_aae02_0 ?_
  refine wp_if_eq (tgt := 17) dJ0_isLatin1_aae02_3 (by decide) (fun h => absurd h (by decide)) (fun _ => ?_)
  refine wp_aload_n dJ0_isLatin1_aae02_6 rfl rfl ?_
  refine wp_strC 12 rfl (by decide) wl_RJ0_15 dJ0_isLatin1_aae02_7 ?_
  refine wp_if_ne (tgt := 17) dJ0_isLatin1_aae02_10 (by decide) (fun h => absurd h (by decide)) (fun _ => ?_)
  refine wp_iconst dJ0_isLatin1_aae02_13 (by decide) ?_
  refine wp_goto (tgt := 18) dJ0_isLatin1_aae02_14 (by decide) ?_
  refine wp_zret rfl (by omega) dJ0_isLatin1_aae02_18 ?_
  refine wp_if_eq (tgt := 16) dJ0_charAt_5068e_4 (by decide) (fun h => absurd h (by decide)) (fun _ => ?_)
  refine wp_aload_n dJ0_charAt_5068e_7 rfl rfl ?_
  refine wp_strV 12 rfl (by decide) wl_RJ0_9 dJ0_charAt_5068e_8 ?_
  refine wp_iload_n dJ0_charAt_5068e_11 rfl rfl ?_
  refine wp_callS0 (d' := d - 1) cs_RJ0_495 [(2, 1112), (0, (i : Int))] [] rfl rfl (Nat.le_of_ble_eq_true rfl) dJ0_charAt_5068e_12 rfl (Nat.le_of_ble_eq_true rfl) (by omega) (loc1 := [(2, 1112), (0, (i : Int))]) rfl ?_
  refine wp_iload_n dJ1_charAt_3b067_0 rfl rfl ?_
  refine wp_aload_n dJ1_charAt_3b067_1 rfl rfl ?_
  refine wp_alenK 12 rfl (by decide) dJ1_charAt_3b067_2 ?_
  change Wp _ _ _ _ _ _ _ _ ((0, 6) :: _) _ _ _
  refine wp_callS0 (d' := d - 2) cs_RJ1_9 [(0, (i : Int)), (0, 6)] [] rfl rfl (Nat.le_of_ble_eq_true rfl) dJ1_charAt_3b067_3 rfl (Nat.le_of_ble_eq_true rfl) (by omega) (loc1 := [(0, (i : Int)), (0, 6)]) rfl ?_
  refine wp_iload_n dJ0_checkIndex_df160_0 rfl rfl ?_
  refine wp_iload_n dJ0_checkIndex_df160_1 rfl rfl ?_
  refine wp_getsF wl_RJ0_1053 dJ0_checkIndex_df160_2 ?_
  refine wp_callS0 (d' := d - 3) cs_RJ0_1059 [(0, (i : Int)), (0, 6), (2, (fmW g))] [] rfl rfl (Nat.le_of_ble_eq_true rfl) dJ0_checkIndex_df160_5 rfl (Nat.le_of_ble_eq_true rfl) (by omega) (loc1 := [(0, (i : Int)), (0, 6), (2, (fmW g))]) rfl ?_
  refine wp_iload_n dJ3_checkIndex_8e157_0 rfl rfl ?_
  refine wp_if_lt (tgt := 9) dJ3_checkIndex_8e157_1 (by decide) (fun h => absurd h (by omega)) (fun _ => ?_)
  refine wp_iload_n dJ3_checkIndex_8e157_4 rfl rfl ?_
  refine wp_iload_n dJ3_checkIndex_8e157_5 rfl rfl ?_
  refine wp_icmp_lt (tgt := 16) dJ3_checkIndex_8e157_6 (by decide) (fun _ => ?_) (fun h => absurd h (by omega))
  refine wp_iload_n dJ3_checkIndex_8e157_16 rfl rfl ?_
  refine wp_iret rfl dJ3_checkIndex_8e157_17 ?_
  refine wp_pop dJ0_checkIndex_df160_8 (Or.inl rfl) ?_
  refine wp_vret rfl dJ0_checkIndex_df160_9 ?_
  refine wp_aload_n dJ1_charAt_3b067_6 rfl rfl ?_
  refine wp_iload_n dJ1_charAt_3b067_7 rfl rfl ?_
  refine wp_baldK 12 rfl (by decide) ⟨by omega, by show _ < ((6 : Nat) : Int); omega⟩ dJ1_charAt_3b067_8 ?_
  change Wp _ _ _ _ _ _ _ _ ((0, byt 12 i) :: _) _ _ _
  refine wp_sipush dJ1_charAt_3b067_9 (by decide) (by decide) ?_
  refine wp_iand dJ1_charAt_3b067_12 ?_
  refine wp_i2c dJ1_charAt_3b067_13 ?_
  change Wp _ _ _ _ _ _ _ _ ((0, u16 (bnd (byt 12 i) 255)) :: _) _ _ _
  rw [hb.2]
  refine wp_cret rfl (nrw_c hb.1) dJ1_charAt_3b067_14 ?_
  refine wp_cret rfl (nrw_c hb.1) dJ0_charAt_5068e_15 ?_
  exact kk
set_option maxRecDepth 20000 in
set_option maxHeartbeats 4000000 in
theorem sp_charAt_13 {l : Launch} {g : Gw} {d n : Nat} {M : Mm} {Q : Option Wd → Mm → Prop} (hd : 4 ≤ d) {i : Nat} (hi : i < 8) (kk : Q (some (0, byt 13 i)) M) : Wp l g d 0 0 n m_J0_charAt_5068e 0 [] [(2, 1013), (0, (i : Int))] M Q := by
  have hb := byt_r 13 (by decide) i hi
  refine wp_aload_n dJ0_charAt_5068e_0 rfl rfl ?_
  refine wp_callV0 (d' := d - 1) cv_RJ0_492 1013 rfl [] [] rfl rfl (Or.inr ⟨by decide, by decide, rfl⟩) (by omega) (Nat.le_of_ble_eq_true rfl) dJ0_charAt_5068e_1 rfl (Nat.le_of_ble_eq_true rfl) (by omega) (loc1 := [(2, 1013)]) rfl ?_
  refine wp_getsC wl_RJ0_38 dJ0_isLatin1_aae02_0 ?_
  refine wp_if_eq (tgt := 17) dJ0_isLatin1_aae02_3 (by decide) (fun h => absurd h (by decide)) (fun _ => ?_)
  refine wp_aload_n dJ0_isLatin1_aae02_6 rfl rfl ?_
  refine wp_strC 13 rfl (by decide) wl_RJ0_15 dJ0_isLatin1_aae02_7 ?_
  refine wp_if_ne (tgt := 17) dJ0_isLatin1_aae02_10 (by decide) (fun h => absurd h (by decide)) (fun _ => ?_)
  refine wp_iconst dJ0_isLatin1_aae02_13 (by decide) ?_
  refine wp_goto (tgt := 18) dJ0_isLatin1_aae02_14 (by decide) ?_
  refine wp_zret rfl (by omega) dJ0_isLatin1_aae02_18 ?_
  refine wp_if_eq (tgt := 16) dJ0_charAt_5068e_4 (by decide) (fun h => absurd h (by decide)) (fun _ => ?_)
  refine wp_aload_n dJ0_charAt_5068e_7 rfl rfl ?_
  refine wp_strV 13 rfl (by decide) wl_RJ0_9 dJ0_charAt_5068e_8 ?_
  refine wp_iload_n dJ0_charAt_5068e_11 rfl rfl ?_
  refine wp_callS0 (d' := d - 1) cs_RJ0_495 [(2, 1113), (0, (i : Int))] [] rfl rfl (Nat.le_of_ble_eq_true rfl) dJ0_charAt_5068e_12 rfl (Nat.le_of_ble_eq_true rfl) (by omega) (loc1 := [(2, 1113), (0, (i : Int))]) rfl ?_
  refine wp_iload_n dJ1_charAt_3b067_0 rfl rfl ?_
  refine wp_aload_n dJ1_charAt_3b067_1 rfl rfl ?_
  refine wp_alenK 13 rfl (by decide) dJ1_charAt_3b067_2 ?_
  change Wp _ _ _ _ _ _ _ _ ((0, 8) :: _) _ _ _
  refine wp_callS0 (d' := d - 2) cs_RJ1_9 [(0, (i : Int)), (0, 8)] [] rfl rfl (Nat.le_of_ble_eq_true rfl) dJ1_charAt_3b067_3 rfl (Nat.le_of_ble_eq_true rfl) (by omega) (loc1 := [(0, (i : Int)), (0, 8)]) rfl ?_
  refine wp_iload_n dJ0_checkIndex_df160_0 rfl rfl ?_
  refine wp_iload_n dJ0_checkIndex_df160_1 rfl rfl ?_
  refine wp_getsF wl_RJ0_1053 dJ0_checkIndex_df160_2 ?_
  refine wp_callS0 (d' := d - 3) cs_RJ0_1059 [(0, (i : Int)), (0, 8), (2, (fmW g))] [] rfl rfl (Nat.le_of_ble_eq_true rfl) dJ0_checkIndex_df160_5 rfl (Nat.le_of_ble_eq_true rfl) (by omega) (loc1 := [(0, (i : Int)), (0, 8), (2, (fmW g))]) rfl ?_
  refine wp_iload_n dJ3_checkIndex_8e157_0 rfl rfl ?_
  refine wp_if_lt (tgt := 9) dJ3_checkIndex_8e157_1 (by decide) (fun h => absurd h (by omega)) (fun _ => ?_)
  refine wp_iload_n dJ3_checkIndex_8e157_4 rfl rfl ?_
  refine wp_iload_n dJ3_checkIndex_8e157_5 rfl rfl ?_
  refine wp_icmp_lt (tgt := 16) dJ3_checkIndex_8e157_6 (by decide) (fun _ => ?_) (fun h => absurd h (by omega))
  refine wp_iload_n dJ3_checkIndex_8e157_16 rfl rfl ?_
  refine wp_iret rfl dJ3_checkIndex_8e157_17 ?_
  refine wp_pop dJ0_checkIndex_df160_8 (Or.inl rfl) ?_
  refine wp_vret rfl dJ0_checkIndex_df160_9 ?_
  refine wp_aload_n dJ1_charAt_3b067_6 rfl rfl ?_
  refine wp_iload_n dJ1_charAt_3b067_7 rfl rfl ?_
  refine wp_baldK 13 rfl (by decide) ⟨by omega, by show _ < ((8 : Nat) : Int); omega⟩ dJ1_charAt_3b067_8 ?_
  change Wp _ _ _ _ _ _ _ _ ((0, byt 13 i) :: _) _ _ _
  refine wp_sipush dJ1_charAt_3b067_9 (by decide) (by decide) ?_
  refine wp_iand dJ1_charAt_3b067_12 ?_
  refine wp_i2c dJ1_charAt_3b067_13 ?_
  change Wp _ _ _ _ _ _ _ _ ((0, u16 (bnd (byt 13 i) 255)) :: _) _ _ _
  rw [hb.2]
  refine wp_cret rfl (nrw_c hb.1) dJ1_charAt_3b067_14 ?_
  refine wp_cret rfl (nrw_c hb.1) dJ0_charAt_5068e_15 ?_
  exact kk
