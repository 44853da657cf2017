/-! ===== signs ===== -/
def sgnC (c : Int) : Bool := decide (c = 40 ∨ c = 41 ∨ c = 59 ∨ c = 43 ∨ c = 45 ∨ c = 42 ∨ c = 60 ∨ c = 61)
theorem i8u {c : Int} (h : 0 ≤ c ∧ c ≤ 255) : u16 c = c ∧ i8 c = if c < 128 then c else c - 256 := by
  obtain ⟨k, rfl⟩ := Int.eq_ofNat_of_zero_le h.1
  have : ∀ k : Nat, k < 256 → u16 (k : Int) = (k : Int) ∧ i8 (k : Int) = if (k : Int) < 128 then (k : Int) else (k : Int) - 256 := by decide +kernel
  exact this k (by omega)
theorem byt13 : byt 13 0 = 40 ∧ byt 13 1 = 41 ∧ byt 13 2 = 59 ∧ byt 13 3 = 43 ∧ byt 13 4 = 45 ∧ byt 13 5 = 42 ∧ byt 13 6 = 60 ∧ byt 13 7 = 61 := by decide +kernel
set_option maxRecDepth 20000 in
set_option maxHeartbeats 4000000 in
theorem sp_isSign {l : Launch} {g : Gw} {d n : Nat} {M : Mm} {Q : Option Wd → Mm → Prop} (hd : 8 ≤ d) (c : Int) (h : 0 ≤ c ∧ c ≤ 255) (kt : sgnC c = true → Q (some (0, 1)) M) (kf : sgnC c = false → Q (some (0, 0)) M) : Wp l g d 0 0 n m_X2_isSign 0 [] [(0, c)] M Q := by
  have hu := i8u h
  have hi8 : (c < 128 ∧ i8 c = c) ∨ (128 ≤ c ∧ i8 c = c - 256) := by have := hu.2; split at this <;> omega
  obtain ⟨b0, b1, b2, b3, b4, b5, b6, b7⟩ := byt13
  refine wp_ldcS 13 rfl dX2_isSign_0 (x := 1013) rfl ?_
  refine wp_iload_n dX2_isSign_2 rfl rfl ?_
  refine wp_i2c dX2_isSign_3 ?_
  rw [hu.1]
  refine wp_callV0 (d' := d - 1) cv_RX2_133 1013 rfl [(0, c)] [] rfl rfl (Or.inr ⟨by decide, by decide, rfl⟩) (by omega) (Nat.le_of_ble_eq_true rfl) dX2_isSign_4 rfl (Nat.le_of_ble_eq_true rfl) (by omega) (loc1 := [(2, 1013), (0, c)]) rfl ?_
  refine wp_aload_n dJ0_indexOf_0f7a4_0 rfl rfl ?_
  refine wp_iload_n dJ0_indexOf_0f7a4_1 rfl rfl ?_
  refine wp_iconst dJ0_indexOf_0f7a4_2 (by decide) ?_
  refine wp_callV0 (d' := d - 2) cv_RJ0_633 1013 rfl [(0, c), (0, 0)] [] rfl rfl (Or.inr ⟨by decide, by decide, rfl⟩) (by omega) (Nat.le_of_ble_eq_true rfl) dJ0_indexOf_0f7a4_3 rfl (Nat.le_of_ble_eq_true rfl) (by omega) (loc1 := [(2, 1013), (0, c), (0, 0)]) rfl ?_
  refine wp_aload_n dJ0_indexOf_7cf53_0 rfl rfl ?_
  refine wp_callV0 (d' := d - 3) cv_RJ0_492 1013 rfl [] [] rfl rfl (Or.inr ⟨by decide, by decide, rfl⟩) (by omega) (Nat.le_of_ble_eq_true rfl) dJ0_indexOf_7cf53_1 rfl (Nat.le_of_ble_eq_true rfl) (by omega) (loc1 := [(2, 1013)]) rfl ?_
  refine wp_getsC wl_RJ0_38 dJ0_isLatin1_aae02_0 ?_
  refine wp_if_eq (tgt := 17) dJ0_isLatin1_aae02_3 (by decide) (fun h => absurd h (by decide)) (fun _ => ?_)
  refine wp_aload_n dJ0_isLatin1_aae02_6 rfl rfl ?_
  refine wp_strC 13 rfl (by decide) wl_RJ0_15 dJ0_isLatin1_aae02_7 ?_
  refine wp_if_ne (tgt := 17) dJ0_isLatin1_aae02_10 (by decide) (fun h => absurd h (by decide)) (fun _ => ?_)
  refine wp_iconst dJ0_isLatin1_aae02_13 (by decide) ?_
  refine wp_goto (tgt := 18) dJ0_isLatin1_aae02_14 (by decide) ?_
  refine wp_zret rfl (by omega) dJ0_isLatin1_aae02_18 ?_
  refine wp_if_eq (tgt := 23) dJ0_indexOf_7cf53_4 (by decide) (fun h => absurd h (by decide)) (fun _ => ?_)
  refine wp_aload_n dJ0_indexOf_7cf53_7 rfl rfl ?_
  refine wp_strV 13 rfl (by decide) wl_RJ0_9 dJ0_indexOf_7cf53_8 ?_
  refine wp_iload_n dJ0_indexOf_7cf53_11 rfl rfl ?_
  refine wp_iload_n dJ0_indexOf_7cf53_12 rfl rfl ?_
  refine wp_aload_n dJ0_indexOf_7cf53_13 rfl rfl ?_
  refine wp_callV0 (d' := d - 3) cv_RJ0_505 1013 rfl [] [(0, 0), (0, c), (2, 1113)] rfl rfl (Or.inr ⟨by decide, by decide, rfl⟩) (by omega) (Nat.le_of_ble_eq_true rfl) dJ0_indexOf_7cf53_14 rfl (Nat.le_of_ble_eq_true rfl) (by omega) (loc1 := [(2, 1013)]) rfl ?_
  refine sp_slen_13 (by omega) ?_
  refine wp_callS0 (d' := d - 3) cs_RJ0_637 [(2, 1113), (0, c), (0, 0), (0, 8)] [] rfl rfl (Nat.le_of_ble_eq_true rfl) dJ0_indexOf_7cf53_17 rfl (Nat.le_of_ble_eq_true rfl) (by omega) (loc1 := [(2, 1113), (0, c), (0, 0), (0, 8)]) rfl ?_
  refine wp_iload_n dJ1_indexOf_4cfef_0 rfl rfl ?_
  refine wp_callS0 (d' := d - 4) cs_RJ1_88 [(0, c)] [] rfl rfl (Nat.le_of_ble_eq_true rfl) dJ1_indexOf_4cfef_1 rfl (Nat.le_of_ble_eq_true rfl) (by omega) (loc1 := [(0, c)]) rfl ?_
  refine wp_iload_n dJ1_canEncode_9a6ad_0 rfl rfl ?_
  refine wp_if_lt (tgt := 15) dJ1_canEncode_9a6ad_1 (by decide) (fun h1 => ?_) (fun h1 => ?_)
  · refine wp_iconst dJ1_canEncode_9a6ad_15 (by decide) ?_
    refine wp_zret rfl (by omega) dJ1_canEncode_9a6ad_16 ?_
    refine wp_if_ne (tgt := 9) dJ1_indexOf_4cfef_4 (by decide) (fun h => absurd h (by decide)) (fun _ => ?_)
    refine wp_iconst dJ1_indexOf_4cfef_7 (by decide) ?_
    refine wp_iret rfl dJ1_indexOf_4cfef_8 ?_
    refine wp_goto (tgt := 36) dJ0_indexOf_7cf53_20 (by decide) ?_
    refine wp_iret rfl dJ0_indexOf_7cf53_36 ?_
    refine wp_iret rfl dJ0_indexOf_0f7a4_6 ?_
    refine wp_if_lt (tgt := 14) dX2_isSign_7 (by decide) (fun _ => ?_) (fun h => absurd h (by decide))
    refine wp_iconst dX2_isSign_14 (by decide) ?_
    refine wp_zret rfl (by omega) dX2_isSign_15 ?_
    exact kf (decide_eq_false (by omega))
  · refine wp_iload_n dJ1_canEncode_9a6ad_4 rfl rfl ?_
    refine wp_sipush dJ1_canEncode_9a6ad_5 (by decide) (by decide) ?_
    refine wp_icmp_gt (tgt := 15) dJ1_canEncode_9a6ad_8 (by decide) (fun h8 => ?_) (fun h8 => ?_)
    · refine wp_iconst dJ1_canEncode_9a6ad_15 (by decide) ?_
      refine wp_zret rfl (by omega) dJ1_canEncode_9a6ad_16 ?_
      refine wp_if_ne (tgt := 9) dJ1_indexOf_4cfef_4 (by decide) (fun h => absurd h (by decide)) (fun _ => ?_)
      refine wp_iconst dJ1_indexOf_4cfef_7 (by decide) ?_
      refine wp_iret rfl dJ1_indexOf_4cfef_8 ?_
      refine wp_goto (tgt := 36) dJ0_indexOf_7cf53_20 (by decide) ?_
      refine wp_iret rfl dJ0_indexOf_7cf53_36 ?_
      refine wp_iret rfl dJ0_indexOf_0f7a4_6 ?_
      refine wp_if_lt (tgt := 14) dX2_isSign_7 (by decide) (fun _ => ?_) (fun h => absurd h (by decide))
      refine wp_iconst dX2_isSign_14 (by decide) ?_
      refine wp_zret rfl (by omega) dX2_isSign_15 ?_
      exact kf (decide_eq_false (by omega))
    · refine wp_iconst dJ1_canEncode_9a6ad_11 (by decide) ?_
      refine wp_goto (tgt := 16) dJ1_canEncode_9a6ad_12 (by decide) ?_
      refine wp_zret rfl (by omega) dJ1_canEncode_9a6ad_16 ?_
      refine wp_if_ne (tgt := 9) dJ1_indexOf_4cfef_4 (by decide) (fun _ => ?_) (fun h => absurd h (by decide))
      refine wp_iload_n dJ1_indexOf_4cfef_9 rfl rfl ?_
      refine wp_iconst dJ1_indexOf_4cfef_10 (by decide) ?_
      refine wp_mmax mm_RJ1_92 mms_max ini_RJ9 mmc_max (by decide) (by omega) rfl dJ1_indexOf_4cfef_11 ?_
      rw [show (if (0 : Int) < 0 then (0 : Int) else 0) = 0 by decide]
      refine wp_istore_n (loc' := [(2, 1113), (0, c), (0, 0), (0, 8)]) dJ1_indexOf_4cfef_14 rfl (Nat.le_of_ble_eq_true rfl) rfl ?_
      refine wp_iload_n dJ1_indexOf_4cfef_15 rfl rfl ?_
      refine wp_aload_n dJ1_indexOf_4cfef_16 rfl rfl ?_
      refine wp_alenK 13 rfl (by decide) dJ1_indexOf_4cfef_17 ?_
      change Wp _ _ _ _ _ _ _ _ ((0, 8) :: _) _ _ _
      refine wp_mmin mm_RJ1_38 mms_min ini_RJ9 mmc_min (by decide) (by omega) rfl dJ1_indexOf_4cfef_18 ?_
      rw [show (if (8 : Int) < 8 then (8 : Int) else 8) = 8 by decide]
      refine wp_istore_n (loc' := [(2, 1113), (0, c), (0, 0), (0, 8)]) dJ1_indexOf_4cfef_21 rfl (Nat.le_of_ble_eq_true rfl) rfl ?_
      refine wp_iload_n dJ1_indexOf_4cfef_22 rfl rfl ?_
      refine wp_iload_n dJ1_indexOf_4cfef_23 rfl rfl ?_
      refine wp_icmp_lt (tgt := 29) dJ1_indexOf_4cfef_24 (by decide) (fun _ => ?_) (fun h => absurd h (by decide))
      refine wp_aload_n dJ1_indexOf_4cfef_29 rfl rfl ?_
      refine wp_iload_n dJ1_indexOf_4cfef_30 rfl rfl ?_
      refine wp_iload_n dJ1_indexOf_4cfef_31 rfl rfl ?_
      refine wp_iload_n dJ1_indexOf_4cfef_32 rfl rfl ?_
      refine wp_callS0 (d' := d - 4) cs_RJ1_95 [(2, 1113), (0, c), (0, 0), (0, 8)] [] rfl rfl (Nat.le_of_ble_eq_true rfl) dJ1_indexOf_4cfef_33 rfl (Nat.le_of_ble_eq_true rfl) (by omega) (loc1 := [(2, 1113), (0, c), (0, 0), (0, 8), (9, 0), (9, 0)]) rfl ?_
      refine wp_iload_n dJ1_indexOfChar_4cfef_0 rfl rfl ?_
      refine wp_i2b dJ1_indexOfChar_4cfef_1 ?_
      refine wp_istore (loc' := [(2, 1113), (0, c), (0, 0), (0, 8), (0, (i8 c)), (9, 0)]) dJ1_indexOfChar_4cfef_2 (Nat.le_of_ble_eq_true rfl) rfl ?_
      refine wp_iload_n dJ1_indexOfChar_4cfef_4 rfl rfl ?_
      refine wp_istore (loc' := [(2, 1113), (0, c), (0, 0), (0, 8), (0, (i8 c)), (0, 0)]) dJ1_indexOfChar_4cfef_5 (Nat.le_of_ble_eq_true rfl) rfl ?_
      refine wp_iload dJ1_indexOfChar_4cfef_7 rfl ?_
      refine wp_iload_n dJ1_indexOfChar_4cfef_9 rfl rfl ?_
      refine wp_icmp_ge (tgt := 31) dJ1_indexOfChar_4cfef_10 (by decide) (fun h => absurd h (by decide)) (fun _ => ?_)
      refine wp_aload_n dJ1_indexOfChar_4cfef_13 rfl rfl ?_
      refine wp_iload dJ1_indexOfChar_4cfef_14 rfl ?_
      refine wp_baldK 13 rfl (by decide) ⟨by decide, by decide⟩ dJ1_indexOfChar_4cfef_16 ?_
      change Wp _ _ _ _ _ _ _ _ ((0, byt 13 0) :: _) _ _ _
      refine wp_iload dJ1_indexOfChar_4cfef_17 rfl ?_
      refine wp_icmp_ne (tgt := 25) dJ1_indexOfChar_4cfef_19 (by decide) (fun h19 => ?_) (fun h19 => ?_)
      · refine wp_iinc (loc' := [(2, 1113), (0, c), (0, 0), (0, 8), (0, (i8 c)), (0, 1)]) dJ1_indexOfChar_4cfef_25 rfl (by omega) rfl ?_
        refine wp_goto (tgt := 7) dJ1_indexOfChar_4cfef_28 (by decide) ?_
        refine wp_iload dJ1_indexOfChar_4cfef_7 rfl ?_
        refine wp_iload_n dJ1_indexOfChar_4cfef_9 rfl rfl ?_
        refine wp_icmp_ge (tgt := 31) dJ1_indexOfChar_4cfef_10 (by decide) (fun h => absurd h (by decide)) (fun _ => ?_)
        refine wp_aload_n dJ1_indexOfChar_4cfef_13 rfl rfl ?_
        refine wp_iload dJ1_indexOfChar_4cfef_14 rfl ?_
        refine wp_baldK 13 rfl (by decide) ⟨by decide, by decide⟩ dJ1_indexOfChar_4cfef_16 ?_
        change Wp _ _ _ _ _ _ _ _ ((0, byt 13 1) :: _) _ _ _
        refine wp_iload dJ1_indexOfChar_4cfef_17 rfl ?_
        refine wp_icmp_ne (tgt := 25) dJ1_indexOfChar_4cfef_19 (by decide) (fun h19 => ?_) (fun h19 => ?_)
        · refine wp_iinc (loc' := [(2, 1113), (0, c), (0, 0), (0, 8), (0, (i8 c)), (0, 2)]) dJ1_indexOfChar_4cfef_25 rfl (by omega) rfl ?_
          refine wp_goto (tgt := 7) dJ1_indexOfChar_4cfef_28 (by decide) ?_
          refine wp_iload dJ1_indexOfChar_4cfef_7 rfl ?_
          refine wp_iload_n dJ1_indexOfChar_4cfef_9 rfl rfl ?_
          refine wp_icmp_ge (tgt := 31) dJ1_indexOfChar_4cfef_10 (by decide) (fun h => absurd h (by decide)) (fun _ => ?_)
          refine wp_aload_n dJ1_indexOfChar_4cfef_13 rfl rfl ?_
          refine wp_iload dJ1_indexOfChar_4cfef_14 rfl ?_
          refine wp_baldK 13 rfl (by decide) ⟨by decide, by decide⟩ dJ1_indexOfChar_4cfef_16 ?_
          change Wp _ _ _ _ _ _ _ _ ((0, byt 13 2) :: _) _ _ _
          refine wp_iload dJ1_indexOfChar_4cfef_17 rfl ?_
          refine wp_icmp_ne (tgt := 25) dJ1_indexOfChar_4cfef_19 (by decide) (fun h19 => ?_) (fun h19 => ?_)
          · refine wp_iinc (loc' := [(2, 1113), (0, c), (0, 0), (0, 8), (0, (i8 c)), (0, 3)]) dJ1_indexOfChar_4cfef_25 rfl (by omega) rfl ?_
            refine wp_goto (tgt := 7) dJ1_indexOfChar_4cfef_28 (by decide) ?_
            refine wp_iload dJ1_indexOfChar_4cfef_7 rfl ?_
            refine wp_iload_n dJ1_indexOfChar_4cfef_9 rfl rfl ?_
            refine wp_icmp_ge (tgt := 31) dJ1_indexOfChar_4cfef_10 (by decide) (fun h => absurd h (by decide)) (fun _ => ?_)
            refine wp_aload_n dJ1_indexOfChar_4cfef_13 rfl rfl ?_
            refine wp_iload dJ1_indexOfChar_4cfef_14 rfl ?_
            refine wp_baldK 13 rfl (by decide) ⟨by decide, by decide⟩ dJ1_indexOfChar_4cfef_16 ?_
            change Wp _ _ _ _ _ _ _ _ ((0, byt 13 3) :: _) _ _ _
            refine wp_iload dJ1_indexOfChar_4cfef_17 rfl ?_
            refine wp_icmp_ne (tgt := 25) dJ1_indexOfChar_4cfef_19 (by decide) (fun h19 => ?_) (fun h19 => ?_)
            · refine wp_iinc (loc' := [(2, 1113), (0, c), (0, 0), (0, 8), (0, (i8 c)), (0, 4)]) dJ1_indexOfChar_4cfef_25 rfl (by omega) rfl ?_
              refine wp_goto (tgt := 7) dJ1_indexOfChar_4cfef_28 (by decide) ?_
              refine wp_iload dJ1_indexOfChar_4cfef_7 rfl ?_
              refine wp_iload_n dJ1_indexOfChar_4cfef_9 rfl rfl ?_
              refine wp_icmp_ge (tgt := 31) dJ1_indexOfChar_4cfef_10 (by decide) (fun h => absurd h (by decide)) (fun _ => ?_)
              refine wp_aload_n dJ1_indexOfChar_4cfef_13 rfl rfl ?_
              refine wp_iload dJ1_indexOfChar_4cfef_14 rfl ?_
              refine wp_baldK 13 rfl (by decide) ⟨by decide, by decide⟩ dJ1_indexOfChar_4cfef_16 ?_
              change Wp _ _ _ _ _ _ _ _ ((0, byt 13 4) :: _) _ _ _
              refine wp_iload dJ1_indexOfChar_4cfef_17 rfl ?_
              refine wp_icmp_ne (tgt := 25) dJ1_indexOfChar_4cfef_19 (by decide) (fun h19 => ?_) (fun h19 => ?_)
              · refine wp_iinc (loc' := [(2, 1113), (0, c), (0, 0), (0, 8), (0, (i8 c)), (0, 5)]) dJ1_indexOfChar_4cfef_25 rfl (by omega) rfl ?_
                refine wp_goto (tgt := 7) dJ1_indexOfChar_4cfef_28 (by decide) ?_
                refine wp_iload dJ1_indexOfChar_4cfef_7 rfl ?_
                refine wp_iload_n dJ1_indexOfChar_4cfef_9 rfl rfl ?_
                refine wp_icmp_ge (tgt := 31) dJ1_indexOfChar_4cfef_10 (by decide) (fun h => absurd h (by decide)) (fun _ => ?_)
                refine wp_aload_n dJ1_indexOfChar_4cfef_13 rfl rfl ?_
                refine wp_iload dJ1_indexOfChar_4cfef_14 rfl ?_
                refine wp_baldK 13 rfl (by decide) ⟨by decide, by decide⟩ dJ1_indexOfChar_4cfef_16 ?_
                change Wp _ _ _ _ _ _ _ _ ((0, byt 13 5) :: _) _ _ _
                refine wp_iload dJ1_indexOfChar_4cfef_17 rfl ?_
                refine wp_icmp_ne (tgt := 25) dJ1_indexOfChar_4cfef_19 (by decide) (fun h19 => ?_) (fun h19 => ?_)
                · refine wp_iinc (loc' := [(2, 1113), (0, c), (0, 0), (0, 8), (0, (i8 c)), (0, 6)]) dJ1_indexOfChar_4cfef_25 rfl (by omega) rfl ?_
                  refine wp_goto (tgt := 7) dJ1_indexOfChar_4cfef_28 (by decide) ?_
                  refine wp_iload dJ1_indexOfChar_4cfef_7 rfl ?_
                  refine wp_iload_n dJ1_indexOfChar_4cfef_9 rfl rfl ?_
                  refine wp_icmp_ge (tgt := 31) dJ1_indexOfChar_4cfef_10 (by decide) (fun h => absurd h (by decide)) (fun _ => ?_)
                  refine wp_aload_n dJ1_indexOfChar_4cfef_13 rfl rfl ?_
                  refine wp_iload dJ1_indexOfChar_4cfef_14 rfl ?_
                  refine wp_baldK 13 rfl (by decide) ⟨by decide, by decide⟩ dJ1_indexOfChar_4cfef_16 ?_
                  change Wp _ _ _ _ _ _ _ _ ((0, byt 13 6) :: _) _ _ _
                  refine wp_iload dJ1_indexOfChar_4cfef_17 rfl ?_
                  refine wp_icmp_ne (tgt := 25) dJ1_indexOfChar_4cfef_19 (by decide) (fun h19 => ?_) (fun h19 => ?_)
                  · refine wp_iinc (loc' := [(2, 1113), (0, c), (0, 0), (0, 8), (0, (i8 c)), (0, 7)]) dJ1_indexOfChar_4cfef_25 rfl (by omega) rfl ?_
                    refine wp_goto (tgt := 7) dJ1_indexOfChar_4cfef_28 (by decide) ?_
                    refine wp_iload dJ1_indexOfChar_4cfef_7 rfl ?_
                    refine wp_iload_n dJ1_indexOfChar_4cfef_9 rfl rfl ?_
                    refine wp_icmp_ge (tgt := 31) dJ1_indexOfChar_4cfef_10 (by decide) (fun h => absurd h (by decide)) (fun _ => ?_)
                    refine wp_aload_n dJ1_indexOfChar_4cfef_13 rfl rfl ?_
                    refine wp_iload dJ1_indexOfChar_4cfef_14 rfl ?_
                    refine wp_baldK 13 rfl (by decide) ⟨by decide, by decide⟩ dJ1_indexOfChar_4cfef_16 ?_
                    change Wp _ _ _ _ _ _ _ _ ((0, byt 13 7) :: _) _ _ _
                    refine wp_iload dJ1_indexOfChar_4cfef_17 rfl ?_
                    refine wp_icmp_ne (tgt := 25) dJ1_indexOfChar_4cfef_19 (by decide) (fun h19 => ?_) (fun h19 => ?_)
                    · refine wp_iinc (loc' := [(2, 1113), (0, c), (0, 0), (0, 8), (0, (i8 c)), (0, 8)]) dJ1_indexOfChar_4cfef_25 rfl (by omega) rfl ?_
                      refine wp_goto (tgt := 7) dJ1_indexOfChar_4cfef_28 (by decide) ?_
                      refine wp_iload dJ1_indexOfChar_4cfef_7 rfl ?_
                      refine wp_iload_n dJ1_indexOfChar_4cfef_9 rfl rfl ?_
                      refine wp_icmp_ge (tgt := 31) dJ1_indexOfChar_4cfef_10 (by decide) (fun _ => ?_) (fun h => absurd h (by decide))
                      refine wp_iconst dJ1_indexOfChar_4cfef_31 (by decide) ?_
                      refine wp_iret rfl dJ1_indexOfChar_4cfef_32 ?_
                      refine wp_iret rfl dJ1_indexOf_4cfef_36 ?_
                      refine wp_goto (tgt := 36) dJ0_indexOf_7cf53_20 (by decide) ?_
                      refine wp_iret rfl dJ0_indexOf_7cf53_36 ?_
                      refine wp_iret rfl dJ0_indexOf_0f7a4_6 ?_
                      refine wp_if_lt (tgt := 14) dX2_isSign_7 (by decide) (fun _ => ?_) (fun h => absurd h (by decide))
                      refine wp_iconst dX2_isSign_14 (by decide) ?_
                      refine wp_zret rfl (by omega) dX2_isSign_15 ?_
                      exact kf (decide_eq_false (by omega))
                    · refine wp_iload dJ1_indexOfChar_4cfef_22 rfl ?_
                      refine wp_iret rfl dJ1_indexOfChar_4cfef_24 ?_
                      refine wp_iret rfl dJ1_indexOf_4cfef_36 ?_
                      refine wp_goto (tgt := 36) dJ0_indexOf_7cf53_20 (by decide) ?_
                      refine wp_iret rfl dJ0_indexOf_7cf53_36 ?_
                      refine wp_iret rfl dJ0_indexOf_0f7a4_6 ?_
                      refine wp_if_lt (tgt := 14) dX2_isSign_7 (by decide) (fun h => absurd h (by decide)) (fun _ => ?_)
                      refine wp_iconst dX2_isSign_10 (by decide) ?_
                      refine wp_goto (tgt := 15) dX2_isSign_11 (by decide) ?_
                      refine wp_zret rfl (by omega) dX2_isSign_15 ?_
                      exact kt (decide_eq_true (by omega))
                  · refine wp_iload dJ1_indexOfChar_4cfef_22 rfl ?_
                    refine wp_iret rfl dJ1_indexOfChar_4cfef_24 ?_
                    refine wp_iret rfl dJ1_indexOf_4cfef_36 ?_
                    refine wp_goto (tgt := 36) dJ0_indexOf_7cf53_20 (by decide) ?_
                    refine wp_iret rfl dJ0_indexOf_7cf53_36 ?_
                    refine wp_iret rfl dJ0_indexOf_0f7a4_6 ?_
                    refine wp_if_lt (tgt := 14) dX2_isSign_7 (by decide) (fun h => absurd h (by decide)) (fun _ => ?_)
                    refine wp_iconst dX2_isSign_10 (by decide) ?_
                    refine wp_goto (tgt := 15) dX2_isSign_11 (by decide) ?_
                    refine wp_zret rfl (by omega) dX2_isSign_15 ?_
                    exact kt (decide_eq_true (by omega))
                · refine wp_iload dJ1_indexOfChar_4cfef_22 rfl ?_
                  refine wp_iret rfl dJ1_indexOfChar_4cfef_24 ?_
                  refine wp_iret rfl dJ1_indexOf_4cfef_36 ?_
                  refine wp_goto (tgt := 36) dJ0_indexOf_7cf53_20 (by decide) ?_
                  refine wp_iret rfl dJ0_indexOf_7cf53_36 ?_
                  refine wp_iret rfl dJ0_indexOf_0f7a4_6 ?_
                  refine wp_if_lt (tgt := 14) dX2_isSign_7 (by decide) (fun h => absurd h (by decide)) (fun _ => ?_)
                  refine wp_iconst dX2_isSign_10 (by decide) ?_
                  refine wp_goto (tgt := 15) dX2_isSign_11 (by decide) ?_
                  refine wp_zret rfl (by omega) dX2_isSign_15 ?_
                  exact kt (decide_eq_true (by omega))
              · refine wp_iload dJ1_indexOfChar_4cfef_22 rfl ?_
                refine wp_iret rfl dJ1_indexOfChar_4cfef_24 ?_
                refine wp_iret rfl dJ1_indexOf_4cfef_36 ?_
                refine wp_goto (tgt := 36) dJ0_indexOf_7cf53_20 (by decide) ?_
                refine wp_iret rfl dJ0_indexOf_7cf53_36 ?_
                refine wp_iret rfl dJ0_indexOf_0f7a4_6 ?_
                refine wp_if_lt (tgt := 14) dX2_isSign_7 (by decide) (fun h => absurd h (by decide)) (fun _ => ?_)
                refine wp_iconst dX2_isSign_10 (by decide) ?_
                refine wp_goto (tgt := 15) dX2_isSign_11 (by decide) ?_
                refine wp_zret rfl (by omega) dX2_isSign_15 ?_
                exact kt (decide_eq_true (by omega))
            · refine wp_iload dJ1_indexOfChar_4cfef_22 rfl ?_
              refine wp_iret rfl dJ1_indexOfChar_4cfef_24 ?_
              refine wp_iret rfl dJ1_indexOf_4cfef_36 ?_
              refine wp_goto (tgt := 36) dJ0_indexOf_7cf53_20 (by decide) ?_
              refine wp_iret rfl dJ0_indexOf_7cf53_36 ?_
              refine wp_iret rfl dJ0_indexOf_0f7a4_6 ?_
              refine wp_if_lt (tgt := 14) dX2_isSign_7 (by decide) (fun h => absurd h (by decide)) (fun _ => ?_)
              refine wp_iconst dX2_isSign_10 (by decide) ?_
              refine wp_goto (tgt := 15) dX2_isSign_11 (by decide) ?_
              refine wp_zret rfl (by omega) dX2_isSign_15 ?_
              exact kt (decide_eq_true (by omega))
          · refine wp_iload dJ1_indexOfChar_4cfef_22 rfl ?_
            refine wp_iret rfl dJ1_indexOfChar_4cfef_24 ?_
            refine wp_iret rfl dJ1_indexOf_4cfef_36 ?_
            refine wp_goto (tgt := 36) dJ0_indexOf_7cf53_20 (by decide) ?_
            refine wp_iret rfl dJ0_indexOf_7cf53_36 ?_
            refine wp_iret rfl dJ0_indexOf_0f7a4_6 ?_
            refine wp_if_lt (tgt := 14) dX2_isSign_7 (by decide) (fun h => absurd h (by decide)) (fun _ => ?_)
            refine wp_iconst dX2_isSign_10 (by decide) ?_
            refine wp_goto (tgt := 15) dX2_isSign_11 (by decide) ?_
            refine wp_zret rfl (by omega) dX2_isSign_15 ?_
            exact kt (decide_eq_true (by omega))
        · refine wp_iload dJ1_indexOfChar_4cfef_22 rfl ?_
          refine wp_iret rfl dJ1_indexOfChar_4cfef_24 ?_
          refine wp_iret rfl dJ1_indexOf_4cfef_36 ?_
          refine wp_goto (tgt := 36) dJ0_indexOf_7cf53_20 (by decide) ?_
          refine wp_iret rfl dJ0_indexOf_7cf53_36 ?_
          refine wp_iret rfl dJ0_indexOf_0f7a4_6 ?_
          refine wp_if_lt (tgt := 14) dX2_isSign_7 (by decide) (fun h => absurd h (by decide)) (fun _ => ?_)
          refine wp_iconst dX2_isSign_10 (by decide) ?_
          refine wp_goto (tgt := 15) dX2_isSign_11 (by decide) ?_
          refine wp_zret rfl (by omega) dX2_isSign_15 ?_
          exact kt (decide_eq_true (by omega))
      · refine wp_iload dJ1_indexOfChar_4cfef_22 rfl ?_
        refine wp_iret rfl dJ1_indexOfChar_4cfef_24 ?_
        refine wp_iret rfl dJ1_indexOf_4cfef_36 ?_
        refine wp_goto (tgt := 36) dJ0_indexOf_7cf53_20 (by decide) ?_
        refine wp_iret rfl dJ0_indexOf_7cf53_36 ?_
        refine wp_iret rfl dJ0_indexOf_0f7a4_6 ?_
        refine wp_if_lt (tgt := 14) dX2_isSign_7 (by decide) (fun h => absurd h (by decide)) (fun _ => ?_)
        refine wp_iconst dX2_isSign_10 (by decide) ?_
        refine wp_goto (tgt := 15) dX2_isSign_11 (by decide) ?_
        refine wp_zret rfl (by omega) dX2_isSign_15 ?_
        exact kt (decide_eq_true (by omega))
