/-! ===== String constants: length, charAt ===== -/
set_option maxRecDepth 20000 in
set_option maxHeartbeats 4000000 in
theorem sp_slen_0 {l : Launch} {g : Gw} {d n : Nat} {M : Mm} {Q : Option Wd → Mm → Prop} (hd : 2 ≤ d) (kk : Q (some (0, 45)) M) : Wp l g d 0 0 n m_J0_length_8abf5 0 [] [(2, 1000)] M Q := by
  refine wp_aload_n dJ0_length_8abf5_0 rfl rfl ?_
  refine wp_strV 0 rfl (by decide) wl_RJ0_9 dJ0_length_8abf5_1 ?_
  refine wp_alenK 0 rfl (by decide) dJ0_length_8abf5_4 ?_
  refine wp_aload_n dJ0_length_8abf5_5 rfl rfl ?_
  refine wp_callV0 (d' := d - 1) cv_RJ0_335 1000 rfl [] [(0, 45)] rfl rfl (Or.inr ⟨by decide, by decide, rfl⟩) (by omega) (Nat.le_of_ble_eq_true rfl) dJ0_length_8abf5_6 rfl (Nat.le_of_ble_eq_true rfl) (by omega) (loc1 := [(2, 1000)]) rfl ?_
  refine wp_getsC wl_RJ0_38 dJ0_coder_7d493_0 ?_
  refine wp_if_eq (tgt := 13) dJ0_coder_7d493_3 (by decide) (fun h => absurd h (by decide)) (fun _ => ?_)
  refine wp_aload_n dJ0_coder_7d493_6 rfl rfl ?_
  refine wp_strC 0 rfl (by decide) wl_RJ0_15 dJ0_coder_7d493_7 ?_
  refine wp_goto (tgt := 14) dJ0_coder_7d493_10 (by decide) ?_
  refine wp_cret rfl (by decide) dJ0_coder_7d493_14 ?_
  refine wp_ishr dJ0_length_8abf5_9 ?_
  refine wp_iret rfl dJ0_length_8abf5_10 ?_
  rw [show (shr 45 0) = 45 by decide]
  exact kk
set_option maxRecDepth 20000 in
set_option maxHeartbeats 4000000 in
theorem sp_slen_1 {l : Launch} {g : Gw} {d n : Nat} {M : Mm} {Q : Option Wd → Mm → Prop} (hd : 2 ≤ d) (kk : Q (some (0, 5)) M) : Wp l g d 0 0 n m_J0_length_8abf5 0 [] [(2, 1001)] M Q := by
  refine wp_aload_n dJ0_length_8abf5_0 rfl rfl ?_
  refine wp_strV 1 rfl (by decide) wl_RJ0_9 dJ0_length_8abf5_1 ?_
  refine wp_alenK 1 rfl (by decide) dJ0_length_8abf5_4 ?_
  refine wp_aload_n dJ0_length_8abf5_5 rfl rfl ?_
  refine wp_callV0 (d' := d - 1) cv_RJ0_335 1001 rfl [] [(0, 5)] rfl rfl (Or.inr ⟨by decide, by decide, rfl⟩) (by omega) (Nat.le_of_ble_eq_true rfl) dJ0_length_8abf5_6 rfl (Nat.le_of_ble_eq_true rfl) (by omega) (loc1 := [(2, 1001)]) rfl ?_
  refine wp_getsC wl_RJ0_38 dJ0_coder_7d493_0 ?_
  refine wp_if_eq (tgt := 13) dJ0_coder_7d493_3 (by decide) (fun h => absurd h (by decide)) (fun _ => ?_)
  refine wp_aload_n dJ0_coder_7d493_6 rfl rfl ?_
  refine wp_strC 1 rfl (by decide) wl_RJ0_15 dJ0_coder_7d493_7 ?_
  refine wp_goto (tgt := 14) dJ0_coder_7d493_10 (by decide) ?_
  refine wp_cret rfl (by decide) dJ0_coder_7d493_14 ?_
  refine wp_ishr dJ0_length_8abf5_9 ?_
  refine wp_iret rfl dJ0_length_8abf5_10 ?_
  rw [show (shr 5 0) = 5 by decide]
  exact kk
set_option maxRecDepth 20000 in
set_option maxHeartbeats 4000000 in
theorem sp_slen_2 {l : Launch} {g : Gw} {d n : Nat} {M : Mm} {Q : Option Wd → Mm → Prop} (hd : 2 ≤ d) (kk : Q (some (0, 5)) M) : Wp l g d 0 0 n m_J0_length_8abf5 0 [] [(2, 1002)] M Q := by
  refine wp_aload_n dJ0_length_8abf5_0 rfl rfl ?_
  refine wp_strV 2 rfl (by decide) wl_RJ0_9 dJ0_length_8abf5_1 ?_
  refine wp_alenK 2 rfl (by decide) dJ0_length_8abf5_4 ?_
  refine wp_aload_n dJ0_length_8abf5_5 rfl rfl ?_
  refine wp_callV0 (d' := d - 1) cv_RJ0_335 1002 rfl [] [(0, 5)] rfl rfl (Or.inr ⟨by decide, by decide, rfl⟩) (by omega) (Nat.le_of_ble_eq_true rfl) dJ0_length_8abf5_6 rfl (Nat.le_of_ble_eq_true rfl) (by omega) (loc1 := [(2, 1002)]) rfl ?_
  refine wp_getsC wl_RJ0_38 dJ0_coder_7d493_0 ?_
  refine wp_if_eq (tgt := 13) dJ0_coder_7d493_3 (by decide) (fun h => absurd h (by decide)) (fun _ => ?_)
  refine wp_aload_n dJ0_coder_7d493_6 rfl rfl ?_
  refine wp_strC 2 rfl (by decide) wl_RJ0_15 dJ0_coder_7d493_7 ?_
  refine wp_goto (tgt := 14) dJ0_coder_7d493_10 (by decide) ?_
  refine wp_cret rfl (by decide) dJ0_coder_7d493_14 ?_
  refine wp_ishr dJ0_length_8abf5_9 ?_
  refine wp_iret rfl dJ0_length_8abf5_10 ?_
  rw [show (shr 5 0) = 5 by decide]
  exact kk
set_option maxRecDepth 20000 in
set_option maxHeartbeats 4000000 in
theorem sp_slen_3 {l : Launch} {g : Gw} {d n : Nat} {M : Mm} {Q : Option Wd → Mm → Prop} (hd : 2 ≤ d) (kk : Q (some (0, 4)) M) : Wp l g d 0 0 n m_J0_length_8abf5 0 [] [(2, 1003)] M Q := by
  refine wp_aload_n dJ0_length_8abf5_0 rfl rfl ?_
  refine wp_strV 3 rfl (by decide) wl_RJ0_9 dJ0_length_8abf5_1 ?_
  refine wp_alenK 3 rfl (by decide) dJ0_length_8abf5_4 ?_
  refine wp_aload_n dJ0_length_8abf5_5 rfl rfl ?_
  refine wp_callV0 (d' := d - 1) cv_RJ0_335 1003 rfl [] [(0, 4)] rfl rfl (Or.inr ⟨by decide, by decide, rfl⟩) (by omega) (Nat.le_of_ble_eq_true rfl) dJ0_length_8abf5_6 rfl (Nat.le_of_ble_eq_true rfl) (by omega) (loc1 := [(2, 1003)]) rfl ?_
  refine wp_getsC wl_RJ0_38 dJ0_coder_7d493_0 ?_
  refine wp_if_eq (tgt := 13) dJ0_coder_7d493_3 (by decide) (fun h => absurd h (by decide)) (fun _ => ?_)
  refine wp_aload_n dJ0_coder_7d493_6 rfl rfl ?_
  refine wp_strC 3 rfl (by decide) wl_RJ0_15 dJ0_coder_7d493_7 ?_
  refine wp_goto (tgt := 14) dJ0_coder_7d493_10 (by decide) ?_
  refine wp_cret rfl (by decide) dJ0_coder_7d493_14 ?_
  refine wp_ishr dJ0_length_8abf5_9 ?_
  refine wp_iret rfl dJ0_length_8abf5_10 ?_
  rw [show (shr 4 0) = 4 by decide]
  exact kk
set_option maxRecDepth 20000 in
set_option maxHeartbeats 4000000 in
theorem sp_slen_4 {l : Launch} {g : Gw} {d n : Nat} {M : Mm} {Q : Option Wd → Mm → Prop} (hd : 2 ≤ d) (kk : Q (some (0, 2)) M) : Wp l g d 0 0 n m_J0_length_8abf5 0 [] [(2, 1004)] M Q := by
  refine wp_aload_n dJ0_length_8abf5_0 rfl rfl ?_
  refine wp_strV 4 rfl (by decide) wl_RJ0_9 dJ0_length_8abf5_1 ?_
  refine wp_alenK 4 rfl (by decide) dJ0_length_8abf5_4 ?_
  refine wp_aload_n dJ0_length_8abf5_5 rfl rfl ?_
  refine wp_callV0 (d' := d - 1) cv_RJ0_335 1004 rfl [] [(0, 2)] rfl rfl (Or.inr ⟨by decide, by decide, rfl⟩) (by omega) (Nat.le_of_ble_eq_true rfl) dJ0_length_8abf5_6 rfl (Nat.le_of_ble_eq_true rfl) (by omega) (loc1 := [(2, 1004)]) rfl ?_
  refine wp_getsC wl_RJ0_38 dJ0_coder_7d493_0 ?_
  refine wp_if_eq (tgt := 13) dJ0_coder_7d493_3 (by decide) (fun h => absurd h (by decide)) (fun _ => ?_)
  refine wp_aload_n dJ0_coder_7d493_6 rfl rfl ?_
  refine wp_strC 4 rfl (by decide) wl_RJ0_15 dJ0_coder_7d493_7 ?_
  refine wp_goto (tgt := 14) dJ0_coder_7d493_10 (by decide) ?_
  refine wp_cret rfl (by decide) dJ0_coder_7d493_14 ?_
  refine wp_ishr dJ0_length_8abf5_9 ?_
  refine wp_iret rfl dJ0_length_8abf5_10 ?_
  rw [show (shr 2 0) = 2 by decide]
  exact kk
set_option maxRecDepth 20000 in
set_option maxHeartbeats 4000000 in
theorem sp_slen_5 {l : Launch} {g : Gw} {d n : Nat} {M : Mm} {Q : Option Wd → Mm → Prop} (hd : 2 ≤ d) (kk : Q (some (0, 3)) M) : Wp l g d 0 0 n m_J0_length_8abf5 0 [] [(2, 1005)] M Q := by
  refine wp_aload_n dJ0_length_8abf5_0 rfl rfl ?_
  refine wp_strV 5 rfl (by decide) wl_RJ0_9 dJ0_length_8abf5_1 ?_
  refine wp_alenK 5 rfl (by decide) dJ0_length_8abf5_4 ?_
  refine wp_aload_n dJ0_length_8abf5_5 rfl rfl ?_
  refine wp_callV0 (d' := d - 1) cv_RJ0_335 1005 rfl [] [(0, 3)] rfl rfl (Or.inr ⟨by decide, by decide, rfl⟩) (by omega) (Nat.le_of_ble_eq_true rfl) dJ0_length_8abf5_6 rfl (Nat.le_of_ble_eq_true rfl) (by omega) (loc1 := [(2, 1005)]) rfl ?_
  refine wp_getsC wl_RJ0_38 dJ0_coder_7d493_0 ?_
  refine wp_if_eq (tgt := 13) dJ0_coder_7d493_3 (by decide) (fun h => absurd h (by decide)) (fun _ => ?_)
  refine wp_aload_n dJ0_coder_7d493_6 rfl rfl ?_
  refine wp_strC 5 rfl (by decide) wl_RJ0_15 dJ0_coder_7d493_7 ?_
  refine wp_goto (tgt := 14) dJ0_coder_7d493_10 (by decide) ?_
  refine wp_cret rfl (by decide) dJ0_coder_7d493_14 ?_
  refine wp_ishr dJ0_length_8abf5_9 ?_
  refine wp_iret rfl dJ0_length_8abf5_10 ?_
  rw [show (shr 3 0) = 3 by decide]
  exact kk
set_option maxRecDepth 20000 in
set_option maxHeartbeats 4000000 in
theorem sp_slen_6 {l : Launch} {g : Gw} {d n : Nat} {M : Mm} {Q : Option Wd → Mm → Prop} (hd : 2 ≤ d) (kk : Q (some (0, 3)) M) : Wp l g d 0 0 n m_J0_length_8abf5 0 [] [(2, 1006)] M Q := by
  refine wp_aload_n dJ0_length_8abf5_0 rfl rfl ?_
  refine wp_strV 6 rfl (by decide) wl_RJ0_9 dJ0_length_8abf5_1 ?_
  refine wp_alenK 6 rfl (by decide) dJ0_length_8abf5_4 ?_
  refine wp_aload_n dJ0_length_8abf5_5 rfl rfl ?_
  refine wp_callV0 (d' := d - 1) cv_RJ0_335 1006 rfl [] [(0, 3)] rfl rfl (Or.inr ⟨by decide, by decide, rfl⟩) (by omega) (Nat.le_of_ble_eq_true rfl) dJ0_length_8abf5_6 rfl (Nat.le_of_ble_eq_true rfl) (by omega) (loc1 := [(2, 1006)]) rfl ?_
  refine wp_getsC wl_RJ0_38 dJ0_coder_7d493_0 ?_
  refine wp_if_eq (tgt := 13) dJ0_coder_7d493_3 (by decide) (fun h => absurd h (by decide)) (fun _ => ?_)
  refine wp_aload_n dJ0_coder_7d493_6 rfl rfl ?_
  refine wp_strC 6 rfl (by decide) wl_RJ0_15 dJ0_coder_7d493_7 ?_
  refine wp_goto (tgt := 14) dJ0_coder_7d493_10 (by decide) ?_
  refine wp_cret rfl (by decide) dJ0_coder_7d493_14 ?_
  refine wp_ishr dJ0_length_8abf5_9 ?_
  refine wp_iret rfl dJ0_length_8abf5_10 ?_
  rw [show (shr 3 0) = 3 by decide]
  exact kk
set_option maxRecDepth 20000 in
set_option maxHeartbeats 4000000 in
theorem sp_slen_7 {l : Launch} {g : Gw} {d n : Nat} {M : Mm} {Q : Option Wd → Mm → Prop} (hd : 2 ≤ d) (kk : Q (some (0, 5)) M) : Wp l g d 0 0 n m_J0_length_8abf5 0 [] [(2, 1007)] M Q := by
  refine wp_aload_n dJ0_length_8abf5_0 rfl rfl ?_
  refine wp_strV 7 rfl (by decide) wl_RJ0_9 dJ0_length_8abf5_1 ?_
  refine wp_alenK 7 rfl (by decide) dJ0_length_8abf5_4 ?_
  refine wp_aload_n dJ0_length_8abf5_5 rfl rfl ?_
  refine wp_callV0 (d' := d - 1) cv_RJ0_335 1007 rfl [] [(0, 5)] rfl rfl (Or.inr ⟨by decide, by decide, rfl⟩) (by omega) (Nat.le_of_ble_eq_true rfl) dJ0_length_8abf5_6 rfl (Nat.le_of_ble_eq_true rfl) (by omega) (loc1 := [(2, 1007)]) rfl ?_
  refine wp_getsC wl_RJ0_38 dJ0_coder_7d493_0 ?_
  refine wp_if_eq (tgt := 13) dJ0_coder_7d493_3 (by decide) (fun h => absurd h (by decide)) (fun _ => ?_)
  refine wp_aload_n dJ0_coder_7d493_6 rfl rfl ?_
  refine wp_strC 7 rfl (by decide) wl_RJ0_15 dJ0_coder_7d493_7 ?_
  refine wp_goto (tgt := 14) dJ0_coder_7d493_10 (by decide) ?_
  refine wp_cret rfl (by decide) dJ0_coder_7d493_14 ?_
  refine wp_ishr dJ0_length_8abf5_9 ?_
  refine wp_iret rfl dJ0_length_8abf5_10 ?_
  rw [show (shr 5 0) = 5 by decide]
  exact kk
set_option maxRecDepth 20000 in
set_option maxHeartbeats 4000000 in
theorem sp_slen_8 {l : Launch} {g : Gw} {d n : Nat} {M : Mm} {Q : Option Wd → Mm → Prop} (hd : 2 ≤ d) (kk : Q (some (0, 6)) M) : Wp l g d 0 0 n m_J0_length_8abf5 0 [] [(2, 1008)] M Q := by
  refine wp_aload_n dJ0_length_8abf5_0 rfl rfl ?_
  refine wp_strV 8 rfl (by decide) wl_RJ0_9 dJ0_length_8abf5_1 ?_
  refine wp_alenK 8 rfl (by decide) dJ0_length_8abf5_4 ?_
  refine wp_aload_n dJ0_length_8abf5_5 rfl rfl ?_
  refine wp_callV0 (d' := d - 1) cv_RJ0_335 1008 rfl [] [(0, 6)] rfl rfl (Or.inr ⟨by decide, by decide, rfl⟩) (by omega) (Nat.le_of_ble_eq_true rfl) dJ0_length_8abf5_6 rfl (Nat.le_of_ble_eq_true rfl) (by omega) (loc1 := [(2, 1008)]) rfl ?_
  refine wp_getsC wl_RJ0_38 dJ0_coder_7d493_0 ?_
  refine wp_if_eq (tgt := 13) dJ0_coder_7d493_3 (by decide) (fun h => absurd h (by decide)) (fun _ => ?_)
  refine wp_aload_n dJ0_coder_7d493_6 rfl rfl ?_
  refine wp_strC 8 rfl (by decide) wl_RJ0_15 dJ0_coder_7d493_7 ?_
  refine wp_goto (tgt := 14) dJ0_coder_7d493_10 (by decide) ?_
  refine wp_cret rfl (by decide) dJ0_coder_7d493_14 ?_
  refine wp_ishr dJ0_length_8abf5_9 ?_
  refine wp_iret rfl dJ0_length_8abf5_10 ?_
  rw [show (shr 6 0) = 6 by decide]
  exact kk
set_option maxRecDepth 20000 in
set_option maxHeartbeats 4000000 in
theorem sp_slen_9 {l : Launch} {g : Gw} {d n : Nat} {M : Mm} {Q : Option Wd → Mm → Prop} (hd : 2 ≤ d) (kk : Q (some (0, 6)) M) : Wp l g d 0 0 n m_J0_length_8abf5 0 [] [(2, 1009)] M Q := by
  refine wp_aload_n dJ0_length_8abf5_0 rfl rfl ?_
  refine wp_strV 9 rfl (by decide) wl_RJ0_9 dJ0_length_8abf5_1 ?_
  refine wp_alenK 9 rfl (by decide) dJ0_length_8abf5_4 ?_
  refine wp_aload_n dJ0_length_8abf5_5 rfl rfl ?_
  refine wp_callV0 (d' := d - 1) cv_RJ0_335 1009 rfl [] [(0, 6)] rfl rfl (Or.inr ⟨by decide, by decide, rfl⟩) (by omega) (Nat.le_of_ble_eq_true rfl) dJ0_length_8abf5_6 rfl (Nat.le_of_ble_eq_true rfl) (by omega) (loc1 := [(2, 1009)]) rfl ?_
  refine wp_getsC wl_RJ0_38 dJ0_coder_7d493_0 ?_
  refine wp_if_eq (tgt := 13) dJ0_coder_7d493_3 (by decide) (fun h => absurd h (by decide)) (fun _ => ?_)
  refine wp_aload_n dJ0_coder_7d493_6 rfl rfl ?_
  refine wp_strC 9 rfl (by decide) wl_RJ0_15 dJ0_coder_7d493_7 ?_
  refine wp_goto (tgt := 14) dJ0_coder_7d493_10 (by decide) ?_
  refine wp_cret rfl (by decide) dJ0_coder_7d493_14 ?_
  refine wp_ishr dJ0_length_8abf5_9 ?_
  refine wp_iret rfl dJ0_length_8abf5_10 ?_
  rw [show (shr 6 0) = 6 by decide]
  exact kk
set_option maxRecDepth 20000 in
set_option maxHeartbeats 4000000 in
theorem sp_slen_10 {l : Launch} {g : Gw} {d n : Nat} {M : Mm} {Q : Option Wd → Mm → Prop} (hd : 2 ≤ d) (kk : Q (some (0, 6)) M) : Wp l g d 0 0 n m_J0_length_8abf5 0 [] [(2, 1010)] M Q := by
  refine wp_aload_n dJ0_length_8abf5_0 rfl rfl ?_
  refine wp_strV 10 rfl (by decide) wl_RJ0_9 dJ0_length_8abf5_1 ?_
  refine wp_alenK 10 rfl (by decide) dJ0_length_8abf5_4 ?_
  refine wp_aload_n dJ0_length_8abf5_5 rfl rfl ?_
  refine wp_callV0 (d' := d - 1) cv_RJ0_335 1010 rfl [] [(0, 6)] rfl rfl (Or.inr ⟨by decide, by decide, rfl⟩) (by omega) (Nat.le_of_ble_eq_true rfl) dJ0_length_8abf5_6 rfl (Nat.le_of_ble_eq_true rfl) (by omega) (loc1 := [(2, 1010)]) rfl ?_
  refine wp_getsC wl_RJ0_38 dJ0_coder_7d493_0 ?_
  refine wp_if_eq (tgt := 13) dJ0_coder_7d493_3 (by decide) (fun h => absurd h (by decide)) (fun _ => ?_)
  refine wp_aload_n dJ0_coder_7d493_6 rfl rfl ?_
  refine wp_strC 10 rfl (by decide) wl_RJ0_15 dJ0_coder_7d493_7 ?_
  refine wp_goto (tgt := 14) dJ0_coder_7d493_10 (by decide) ?_
  refine wp_cret rfl (by decide) dJ0_coder_7d493_14 ?_
  refine wp_ishr dJ0_length_8abf5_9 ?_
  refine wp_iret rfl dJ0_length_8abf5_10 ?_
  rw [show (shr 6 0) = 6 by decide]
  exact kk
set_option maxRecDepth 20000 in
set_option maxHeartbeats 4000000 in
theorem sp_slen_11 {l : Launch} {g : Gw} {d n : Nat} {M : Mm} {Q : Option Wd → Mm → Prop} (hd : 2 ≤ d) (kk : Q (some (0, 5)) M) : Wp l g d 0 0 n m_J0_length_8abf5 0 [] [(2, 1011)] M Q := by
  refine wp_aload_n dJ0_length_8abf5_0 rfl rfl ?_
  refine wp_strV 11 rfl (by decide) wl_RJ0_9 dJ0_length_8abf5_1 ?_
  refine wp_alenK 11 rfl (by decide) dJ0_length_8abf5_4 ?_
  refine wp_aload_n dJ0_length_8abf5_5 rfl rfl ?_
  refine wp_callV0 (d' := d - 1) cv_RJ0_335 1011 rfl [] [(0, 5)] rfl rfl (Or.inr ⟨by decide, by decide, rfl⟩) (by omega) (Nat.le_of_ble_eq_true rfl) dJ0_length_8abf5_6 rfl (Nat.le_of_ble_eq_true rfl) (by omega) (loc1 := [(2, 1011)]) rfl ?_
  refine wp_getsC wl_RJ0_38 dJ0_coder_7d493_0 ?_
  refine wp_if_eq (tgt := 13) dJ0_coder_7d493_3 (by decide) (fun h => absurd h (by decide)) (fun _ => ?_)
  refine wp_aload_n dJ0_coder_7d493_6 rfl rfl ?_
  refine wp_strC 11 rfl (by decide) wl_RJ0_15 dJ0_coder_7d493_7 ?_
  refine wp_goto (tgt := 14) dJ0_coder_7d493_10 (by decide) ?_
  refine wp_cret rfl (by decide) dJ0_coder_7d493_14 ?_
  refine wp_ishr dJ0_length_8abf5_9 ?_
  refine wp_iret rfl dJ0_length_8abf5_10 ?_
  rw [show (shr 5 0) = 5 by decide]
  exact kk
set_option maxRecDepth 20000 in
set_option maxHeartbeats 4000000 in
theorem sp_slen_12 {l : Launch} {g : Gw} {d n : Nat} {M : Mm} {Q : Option Wd → Mm → Prop} (hd : 2 ≤ d) (kk : Q (some (0, 6)) M) : Wp l g d 0 0 n m_J0_length_8abf5 0 [] [(2, 1012)] M Q := by
  refine wp_aload_n dJ0_length_8abf5_0 rfl rfl ?_
  refine wp_strV 12 rfl (by decide) wl_RJ0_9 dJ0_length_8abf5_1 ?_
  refine wp_alenK 12 rfl (by decide) dJ0_length_8abf5_4 ?_
  refine wp_aload_n dJ0_length_8abf5_5 rfl rfl ?_
  refine wp_callV0 (d' := d - 1) cv_RJ0_335 1012 rfl [] [(0, 6)] rfl rfl (Or.inr ⟨by decide, by decide, rfl⟩) (by omega) (Nat.le_of_ble_eq_true rfl) dJ0_length_8abf5_6 rfl (Nat.le_of_ble_eq_true rfl) (by omega) (loc1 := [(2, 1012)]) rfl ?_
  refine wp_getsC wl_RJ0_38 dJ0_coder_7d493_0 ?_
  refine wp_if_eq (tgt := 13) dJ0_coder_7d493_3 (by decide) (fun h => absurd h (by decide)) (fun _ => ?_)
  refine wp_aload_n dJ0_coder_7d493_6 rfl rfl ?_
  refine wp_strC 12 rfl (by decide) wl_RJ0_15 dJ0_coder_7d493_7 ?_
  refine wp_goto (tgt := 14) dJ0_coder_7d493_10 (by decide) ?_
  refine wp_cret rfl (by decide) dJ0_coder_7d493_14 ?_
  refine wp_ishr dJ0_length_8abf5_9 ?_
  refine wp_iret rfl dJ0_length_8abf5_10 ?_
  rw [show (shr 6 0) = 6 by decide]
  exact kk
set_option maxRecDepth 20000 in
set_option maxHeartbeats 4000000 in
theorem sp_slen_13 {l : Launch} {g : Gw} {d n : Nat} {M : Mm} {Q : Option Wd → Mm → Prop} (hd : 2 ≤ d) (kk : Q (some (0, 8)) M) : Wp l g d 0 0 n m_J0_length_8abf5 0 [] [(2, 1013)] M Q := by
  refine wp_aload_n dJ0_length_8abf5_0 rfl rfl ?_
  refine wp_strV 13 rfl (by decide) wl_RJ0_9 dJ0_length_8abf5_1 ?_
  refine wp_alenK 13 rfl (by decide) dJ0_length_8abf5_4 ?_
  refine wp_aload_n dJ0_length_8abf5_5 rfl rfl ?_
  refine wp_callV0 (d' := d - 1) cv_RJ0_335 1013 rfl [] [(0, 8)] rfl rfl (Or.inr ⟨by decide, by decide, rfl⟩) (by omega) (Nat.le_of_ble_eq_true rfl) dJ0_length_8abf5_6 rfl (Nat.le_of_ble_eq_true rfl) (by omega) (loc1 := [(2, 1013)]) rfl ?_
  refine wp_getsC wl_RJ0_38 dJ0_coder_7d493_0 ?_
  refine wp_if_eq (tgt := 13) dJ0_coder_7d493_3 (by decide) (fun h => absurd h (by decide)) (fun _ => ?_)
  refine wp_aload_n dJ0_coder_7d493_6 rfl rfl ?_
  refine wp_strC 13 rfl (by decide) wl_RJ0_15 dJ0_coder_7d493_7 ?_
  refine wp_goto (tgt := 14) dJ0_coder_7d493_10 (by decide) ?_
  refine wp_cret rfl (by decide) dJ0_coder_7d493_14 ?_
  refine wp_ishr dJ0_length_8abf5_9 ?_
  refine wp_iret rfl dJ0_length_8abf5_10 ?_
  rw [show (shr 8 0) = 8 by decide]
  exact kk
