/-! ===== how many bits, the lowest bit (the b_ rows are the kit's, pasted) ===== -/
def bt (x : Int32) (i : Nat) : Bool := x.toBitVec.getLsbD i
theorem b_ext {x y : Int32} (h : ∀ i, i < 32 → bt x i = bt y i) : x = y := Int32.toBitVec_inj.mp (BitVec.eq_of_getLsbD_eq (fun i hi => h i hi))
theorem b_and (x y : Int32) (i : Nat) : bt (x &&& y) i = (bt x i && bt y i) := by unfold bt; rw [Int32.toBitVec_and, BitVec.getLsbD_and]
theorem b_xor (x y : Int32) (i : Nat) : bt (x ^^^ y) i = (bt x i ^^ bt y i) := by unfold bt; rw [Int32.toBitVec_xor, BitVec.getLsbD_xor]
theorem b_m1 : ∀ i, i < 32 → bt (-1) i = true := by decide +kernel
theorem bt_n (m i : Nat) (h : i < 32) : bt (nI m) i = m.testBit i := by
  show (BitVec.ofNat 32 m).getLsbD i = _
  rw [BitVec.getLsbD_ofNat]
  simp [h]
def msk (t : Nat) : Int := ((2 ^ t - 1 : Nat) : Int)
theorem tz_i32 {m t k : Nat} (hm : m = 2 ^ t * (2 * k + 1)) (ht : t < 32) : bnd (bxr (wrap (m : Int)) (-1)) (wrap (wrap (m : Int) - 1)) = msk t := by
  have h1 : 1 ≤ m := by
    rw [hm]
    exact Nat.mul_pos (Nat.two_pow_pos t) (by omega)
  have e1 : Int32.ofInt (wrap (m : Int)) = nI m := by rw [r_wrap, wb_n]
  have e2 : Int32.ofInt (wrap (wrap (m : Int) - 1)) = nI (m - 1) := by
    rw [r_wrap, Int32.ofInt_sub, e1, ← wb_n, ← Int32.ofInt_sub, show (m : Int) - 1 = ((m - 1 : Nat) : Int) by omega, wb_n]
  have e3 : Int32.ofInt (-1) = -1 := by decide
  have hb : (nI m ^^^ -1) &&& nI (m - 1) = nI (2 ^ t - 1) := by
    apply b_ext
    intro i hi
    rw [b_and, b_xor, b_m1 i hi, bt_n _ _ hi, bt_n _ _ hi, bt_n _ _ hi]
    have p1 : m = 2 ^ (t + 1) * k + 2 ^ t := by rw [hm, Nat.pow_succ, Nat.mul_add, Nat.mul_one, Nat.mul_assoc]
    have p2 : m - 1 = 2 ^ (t + 1) * k + (2 ^ t - 1) := by have := Nat.two_pow_pos t; omega
    have q1 : 2 ^ t < 2 ^ (t + 1) := Nat.pow_lt_pow_right (by decide) (by omega)
    rw [p2, p1, Nat.testBit_two_pow_mul_add _ (by omega), Nat.testBit_two_pow_mul_add _ (by omega), Nat.testBit_two_pow_sub_one, Nat.testBit_two_pow]
    by_cases c : i < t + 1
    · rw [if_pos c, if_pos c]
      by_cases c2 : i < t
      · simp [c2, show ¬ t = i by omega]
      · simp [show t = i by omega]
    · rw [if_neg c, if_neg c]
      simp [show ¬ i < t by omega]
  unfold bnd bxr
  rw [Int32.ofInt_toInt, e1, e2, e3, hb]
  show (nI (2 ^ t - 1)).toBitVec.toInt = _
  have hlt : 2 ^ t ≤ 2 ^ 31 := Nat.pow_le_pow_right (by decide) (by omega)
  have hn : (nI (2 ^ t - 1)).toBitVec.toNat = 2 ^ t - 1 := by
    show (BitVec.ofNat 32 (2 ^ t - 1)).toNat = _
    rw [BitVec.toNat_ofNat, Nat.mod_eq_of_lt (by omega)]
  rw [BitVec.toInt_eq_toNat_of_lt (by rw [hn]; omega), hn]
  rfl
theorem and_i {a b : Bool} (h : a = true) (h2 : b = true) : (a && b) = true := by rw [h, h2]; rfl
set_option maxRecDepth 20000 in
set_option maxHeartbeats 4000000 in
theorem sp_ntzI {l : Launch} {g : Gw} {d n : Nat} {M : Mm} {Q : Option Wd → Mm → Prop} {m t k : Nat} (hm : m = 2 ^ t * (2 * k + 1)) (ht : t < 32) (kk : Q (some (0, (t : Int))) M) : Wp l g d 0 0 n m_J6_numberOfTrailingZeros_0f7a4 0 [] [(0, wrap (m : Int)), (9, 0)] M Q := by
  refine wp_iload_n dJ6_numberOfTrailingZeros_0f7a4_0 rfl rfl ?_
  refine wp_iconst dJ6_numberOfTrailingZeros_0f7a4_1 (by decide) ?_
  refine wp_ixor dJ6_numberOfTrailingZeros_0f7a4_2 ?_
  refine wp_iload_n dJ6_numberOfTrailingZeros_0f7a4_3 rfl rfl ?_
  refine wp_iconst dJ6_numberOfTrailingZeros_0f7a4_4 (by decide) ?_
  refine wp_isubw dJ6_numberOfTrailingZeros_0f7a4_5 ?_
  refine wp_iand dJ6_numberOfTrailingZeros_0f7a4_6 ?_
  refine wp_istore_n (loc' := [(0, (bnd (bxr (wrap (m : Int)) (-1)) (wrap ((wrap (m : Int)) - 1)))), (9, 0)]) dJ6_numberOfTrailingZeros_0f7a4_7 rfl (Nat.le_of_ble_eq_true rfl) rfl ?_
  rw [show (bnd (bxr (wrap (m : Int)) (-1)) (wrap ((wrap (m : Int)) - 1))) = msk t from tz_i32 hm ht]
  refine wp_iload_n dJ6_numberOfTrailingZeros_0f7a4_8 rfl rfl ?_
  refine wp_if_gt (tgt := 17) dJ6_numberOfTrailingZeros_0f7a4_9 (by decide) (fun h9 => ?_) (fun h9 => ?_)
  · refine wp_iconst dJ6_numberOfTrailingZeros_0f7a4_17 (by decide) ?_
    refine wp_istore_n (loc' := [(0, (msk t)), (0, 1)]) dJ6_numberOfTrailingZeros_0f7a4_18 rfl (Nat.le_of_ble_eq_true rfl) rfl ?_
    refine wp_iload_n dJ6_numberOfTrailingZeros_0f7a4_19 rfl rfl ?_
    refine wp_ldcw (x := 65536) dJ6_numberOfTrailingZeros_0f7a4_20 kc_RJ6_264 (by decide) (wr_i (by omega)) ?_
    refine wp_icmp_le (tgt := 34) dJ6_numberOfTrailingZeros_0f7a4_23 (by decide) (fun h23 => ?_) (fun h23 => ?_)
    · refine wp_iload_n dJ6_numberOfTrailingZeros_0f7a4_34 rfl rfl ?_
      refine wp_sipush dJ6_numberOfTrailingZeros_0f7a4_35 (by decide) (by decide) ?_
      refine wp_icmp_le (tgt := 49) dJ6_numberOfTrailingZeros_0f7a4_38 (by decide) (fun h38 => ?_) (fun h38 => ?_)
      · refine wp_iload_n dJ6_numberOfTrailingZeros_0f7a4_49 rfl rfl ?_
        refine wp_bipush dJ6_numberOfTrailingZeros_0f7a4_50 (by decide) (by decide) ?_
        refine wp_icmp_le (tgt := 62) dJ6_numberOfTrailingZeros_0f7a4_52 (by decide) (fun h52 => ?_) (fun h52 => ?_)
        · refine wp_iload_n dJ6_numberOfTrailingZeros_0f7a4_62 rfl rfl ?_
          refine wp_iconst dJ6_numberOfTrailingZeros_0f7a4_63 (by decide) ?_
          refine wp_icmp_le (tgt := 74) dJ6_numberOfTrailingZeros_0f7a4_64 (by decide) (fun h64 => ?_) (fun h64 => ?_)
          · refine wp_iload_n dJ6_numberOfTrailingZeros_0f7a4_74 rfl rfl ?_
            refine wp_iload_n dJ6_numberOfTrailingZeros_0f7a4_75 rfl rfl ?_
            refine wp_iconst dJ6_numberOfTrailingZeros_0f7a4_76 (by decide) ?_
            refine wp_iushr dJ6_numberOfTrailingZeros_0f7a4_77 ?_
            refine wp_iaddw dJ6_numberOfTrailingZeros_0f7a4_78 ?_
            refine wp_iret rfl dJ6_numberOfTrailingZeros_0f7a4_79 ?_
            have e : ∀ t : Nat, t < 32 → (decide ((msk t) > 0) && (decide ((msk t) ≤ 65536) && (decide ((msk t) ≤ 256) && (decide ((msk t) ≤ 16) && decide ((msk t) ≤ 4))))) = true → (wrap (1 + (ush (msk t) 1))) = (t : Int) := by decide +kernel
            rw [e t ht (and_i (decide_eq_true h9) (and_i (decide_eq_true h23) (and_i (decide_eq_true h38) (and_i (decide_eq_true h52) (decide_eq_true h64)))))]
            exact kk
          · refine wp_iinc (loc' := [(0, (msk t)), (0, 3)]) dJ6_numberOfTrailingZeros_0f7a4_67 rfl (by omega) rfl ?_
            refine wp_iload_n dJ6_numberOfTrailingZeros_0f7a4_70 rfl rfl ?_
            refine wp_iconst dJ6_numberOfTrailingZeros_0f7a4_71 (by decide) ?_
            refine wp_iushr dJ6_numberOfTrailingZeros_0f7a4_72 ?_
            refine wp_istore_n (loc' := [(0, (ush (msk t) 2)), (0, 3)]) dJ6_numberOfTrailingZeros_0f7a4_73 rfl (Nat.le_of_ble_eq_true rfl) rfl ?_
            refine wp_iload_n dJ6_numberOfTrailingZeros_0f7a4_74 rfl rfl ?_
            refine wp_iload_n dJ6_numberOfTrailingZeros_0f7a4_75 rfl rfl ?_
            refine wp_iconst dJ6_numberOfTrailingZeros_0f7a4_76 (by decide) ?_
            refine wp_iushr dJ6_numberOfTrailingZeros_0f7a4_77 ?_
            refine wp_iaddw dJ6_numberOfTrailingZeros_0f7a4_78 ?_
            refine wp_iret rfl dJ6_numberOfTrailingZeros_0f7a4_79 ?_
            have e : ∀ t : Nat, t < 32 → (decide ((msk t) > 0) && (decide ((msk t) ≤ 65536) && (decide ((msk t) ≤ 256) && (decide ((msk t) ≤ 16) && decide (¬ ((msk t) ≤ 4)))))) = true → (wrap (3 + (ush (ush (msk t) 2) 1))) = (t : Int) := by decide +kernel
            rw [e t ht (and_i (decide_eq_true h9) (and_i (decide_eq_true h23) (and_i (decide_eq_true h38) (and_i (decide_eq_true h52) (decide_eq_true h64)))))]
            exact kk
        · refine wp_iinc (loc' := [(0, (msk t)), (0, 5)]) dJ6_numberOfTrailingZeros_0f7a4_55 rfl (by omega) rfl ?_
          refine wp_iload_n dJ6_numberOfTrailingZeros_0f7a4_58 rfl rfl ?_
          refine wp_iconst dJ6_numberOfTrailingZeros_0f7a4_59 (by decide) ?_
          refine wp_iushr dJ6_numberOfTrailingZeros_0f7a4_60 ?_
          refine wp_istore_n (loc' := [(0, (ush (msk t) 4)), (0, 5)]) dJ6_numberOfTrailingZeros_0f7a4_61 rfl (Nat.le_of_ble_eq_true rfl) rfl ?_
          refine wp_iload_n dJ6_numberOfTrailingZeros_0f7a4_62 rfl rfl ?_
          refine wp_iconst dJ6_numberOfTrailingZeros_0f7a4_63 (by decide) ?_
          refine wp_icmp_le (tgt := 74) dJ6_numberOfTrailingZeros_0f7a4_64 (by decide) (fun h64 => ?_) (fun h64 => ?_)
          · refine wp_iload_n dJ6_numberOfTrailingZeros_0f7a4_74 rfl rfl ?_
            refine wp_iload_n dJ6_numberOfTrailingZeros_0f7a4_75 rfl rfl ?_
            refine wp_iconst dJ6_numberOfTrailingZeros_0f7a4_76 (by decide) ?_
            refine wp_iushr dJ6_numberOfTrailingZeros_0f7a4_77 ?_
            refine wp_iaddw dJ6_numberOfTrailingZeros_0f7a4_78 ?_
            refine wp_iret rfl dJ6_numberOfTrailingZeros_0f7a4_79 ?_
            have e : ∀ t : Nat, t < 32 → (decide ((msk t) > 0) && (decide ((msk t) ≤ 65536) && (decide ((msk t) ≤ 256) && (decide (¬ ((msk t) ≤ 16)) && decide ((ush (msk t) 4) ≤ 4))))) = true → (wrap (5 + (ush (ush (msk t) 4) 1))) = (t : Int) := by decide +kernel
            rw [e t ht (and_i (decide_eq_true h9) (and_i (decide_eq_true h23) (and_i (decide_eq_true h38) (and_i (decide_eq_true h52) (decide_eq_true h64)))))]
            exact kk
          · refine wp_iinc (loc' := [(0, (ush (msk t) 4)), (0, 7)]) dJ6_numberOfTrailingZeros_0f7a4_67 rfl (by omega) rfl ?_
            refine wp_iload_n dJ6_numberOfTrailingZeros_0f7a4_70 rfl rfl ?_
            refine wp_iconst dJ6_numberOfTrailingZeros_0f7a4_71 (by decide) ?_
            refine wp_iushr dJ6_numberOfTrailingZeros_0f7a4_72 ?_
            refine wp_istore_n (loc' := [(0, (ush (ush (msk t) 4) 2)), (0, 7)]) dJ6_numberOfTrailingZeros_0f7a4_73 rfl (Nat.le_of_ble_eq_true rfl) rfl ?_
            refine wp_iload_n dJ6_numberOfTrailingZeros_0f7a4_74 rfl rfl ?_
            refine wp_iload_n dJ6_numberOfTrailingZeros_0f7a4_75 rfl rfl ?_
            refine wp_iconst dJ6_numberOfTrailingZeros_0f7a4_76 (by decide) ?_
            refine wp_iushr dJ6_numberOfTrailingZeros_0f7a4_77 ?_
            refine wp_iaddw dJ6_numberOfTrailingZeros_0f7a4_78 ?_
            refine wp_iret rfl dJ6_numberOfTrailingZeros_0f7a4_79 ?_
            have e : ∀ t : Nat, t < 32 → (decide ((msk t) > 0) && (decide ((msk t) ≤ 65536) && (decide ((msk t) ≤ 256) && (decide (¬ ((msk t) ≤ 16)) && decide (¬ ((ush (msk t) 4) ≤ 4)))))) = true → (wrap (7 + (ush (ush (ush (msk t) 4) 2) 1))) = (t : Int) := by decide +kernel
            rw [e t ht (and_i (decide_eq_true h9) (and_i (decide_eq_true h23) (and_i (decide_eq_true h38) (and_i (decide_eq_true h52) (decide_eq_true h64)))))]
            exact kk
      · refine wp_iinc (loc' := [(0, (msk t)), (0, 9)]) dJ6_numberOfTrailingZeros_0f7a4_41 rfl (by omega) rfl ?_
        refine wp_iload_n dJ6_numberOfTrailingZeros_0f7a4_44 rfl rfl ?_
        refine wp_bipush dJ6_numberOfTrailingZeros_0f7a4_45 (by decide) (by decide) ?_
        refine wp_iushr dJ6_numberOfTrailingZeros_0f7a4_47 ?_
        refine wp_istore_n (loc' := [(0, (ush (msk t) 8)), (0, 9)]) dJ6_numberOfTrailingZeros_0f7a4_48 rfl (Nat.le_of_ble_eq_true rfl) rfl ?_
        refine wp_iload_n dJ6_numberOfTrailingZeros_0f7a4_49 rfl rfl ?_
        refine wp_bipush dJ6_numberOfTrailingZeros_0f7a4_50 (by decide) (by decide) ?_
        refine wp_icmp_le (tgt := 62) dJ6_numberOfTrailingZeros_0f7a4_52 (by decide) (fun h52 => ?_) (fun h52 => ?_)
        · refine wp_iload_n dJ6_numberOfTrailingZeros_0f7a4_62 rfl rfl ?_
          refine wp_iconst dJ6_numberOfTrailingZeros_0f7a4_63 (by decide) ?_
          refine wp_icmp_le (tgt := 74) dJ6_numberOfTrailingZeros_0f7a4_64 (by decide) (fun h64 => ?_) (fun h64 => ?_)
          · refine wp_iload_n dJ6_numberOfTrailingZeros_0f7a4_74 rfl rfl ?_
            refine wp_iload_n dJ6_numberOfTrailingZeros_0f7a4_75 rfl rfl ?_
            refine wp_iconst dJ6_numberOfTrailingZeros_0f7a4_76 (by decide) ?_
            refine wp_iushr dJ6_numberOfTrailingZeros_0f7a4_77 ?_
            refine wp_iaddw dJ6_numberOfTrailingZeros_0f7a4_78 ?_
            refine wp_iret rfl dJ6_numberOfTrailingZeros_0f7a4_79 ?_
            have e : ∀ t : Nat, t < 32 → (decide ((msk t) > 0) && (decide ((msk t) ≤ 65536) && (decide (¬ ((msk t) ≤ 256)) && (decide ((ush (msk t) 8) ≤ 16) && decide ((ush (msk t) 8) ≤ 4))))) = true → (wrap (9 + (ush (ush (msk t) 8) 1))) = (t : Int) := by decide +kernel
            rw [e t ht (and_i (decide_eq_true h9) (and_i (decide_eq_true h23) (and_i (decide_eq_true h38) (and_i (decide_eq_true h52) (decide_eq_true h64)))))]
            exact kk
          · refine wp_iinc (loc' := [(0, (ush (msk t) 8)), (0, 11)]) dJ6_numberOfTrailingZeros_0f7a4_67 rfl (by omega) rfl ?_
            refine wp_iload_n dJ6_numberOfTrailingZeros_0f7a4_70 rfl rfl ?_
            refine wp_iconst dJ6_numberOfTrailingZeros_0f7a4_71 (by decide) ?_
            refine wp_iushr dJ6_numberOfTrailingZeros_0f7a4_72 ?_
            refine wp_istore_n (loc' := [(0, (ush (ush (msk t) 8) 2)), (0, 11)]) dJ6_numberOfTrailingZeros_0f7a4_73 rfl (Nat.le_of_ble_eq_true rfl) rfl ?_
            refine wp_iload_n dJ6_numberOfTrailingZeros_0f7a4_74 rfl rfl ?_
            refine wp_iload_n dJ6_numberOfTrailingZeros_0f7a4_75 rfl rfl ?_
            refine wp_iconst dJ6_numberOfTrailingZeros_0f7a4_76 (by decide) ?_
            refine wp_iushr dJ6_numberOfTrailingZeros_0f7a4_77 ?_
            refine wp_iaddw dJ6_numberOfTrailingZeros_0f7a4_78 ?_
            refine wp_iret rfl dJ6_numberOfTrailingZeros_0f7a4_79 ?_
            have e : ∀ t : Nat, t < 32 → (decide ((msk t) > 0) && (decide ((msk t) ≤ 65536) && (decide (¬ ((msk t) ≤ 256)) && (decide ((ush (msk t) 8) ≤ 16) && decide (¬ ((ush (msk t) 8) ≤ 4)))))) = true → (wrap (11 + (ush (ush (ush (msk t) 8) 2) 1))) = (t : Int) := by decide +kernel
            rw [e t ht (and_i (decide_eq_true h9) (and_i (decide_eq_true h23) (and_i (decide_eq_true h38) (and_i (decide_eq_true h52) (decide_eq_true h64)))))]
            exact kk
        · refine wp_iinc (loc' := [(0, (ush (msk t) 8)), (0, 13)]) dJ6_numberOfTrailingZeros_0f7a4_55 rfl (by omega) rfl ?_
          refine wp_iload_n dJ6_numberOfTrailingZeros_0f7a4_58 rfl rfl ?_
          refine wp_iconst dJ6_numberOfTrailingZeros_0f7a4_59 (by decide) ?_
          refine wp_iushr dJ6_numberOfTrailingZeros_0f7a4_60 ?_
          refine wp_istore_n (loc' := [(0, (ush (ush (msk t) 8) 4)), (0, 13)]) dJ6_numberOfTrailingZeros_0f7a4_61 rfl (Nat.le_of_ble_eq_true rfl) rfl ?_
          refine wp_iload_n dJ6_numberOfTrailingZeros_0f7a4_62 rfl rfl ?_
          refine wp_iconst dJ6_numberOfTrailingZeros_0f7a4_63 (by decide) ?_
          refine wp_icmp_le (tgt := 74) dJ6_numberOfTrailingZeros_0f7a4_64 (by decide) (fun h64 => ?_) (fun h64 => ?_)
          · refine wp_iload_n dJ6_numberOfTrailingZeros_0f7a4_74 rfl rfl ?_
            refine wp_iload_n dJ6_numberOfTrailingZeros_0f7a4_75 rfl rfl ?_
            refine wp_iconst dJ6_numberOfTrailingZeros_0f7a4_76 (by decide) ?_
            refine wp_iushr dJ6_numberOfTrailingZeros_0f7a4_77 ?_
            refine wp_iaddw dJ6_numberOfTrailingZeros_0f7a4_78 ?_
            refine wp_iret rfl dJ6_numberOfTrailingZeros_0f7a4_79 ?_
            have e : ∀ t : Nat, t < 32 → (decide ((msk t) > 0) && (decide ((msk t) ≤ 65536) && (decide (¬ ((msk t) ≤ 256)) && (decide (¬ ((ush (msk t) 8) ≤ 16)) && decide ((ush (ush (msk t) 8) 4) ≤ 4))))) = true → (wrap (13 + (ush (ush (ush (msk t) 8) 4) 1))) = (t : Int) := by decide +kernel
            rw [e t ht (and_i (decide_eq_true h9) (and_i (decide_eq_true h23) (and_i (decide_eq_true h38) (and_i (decide_eq_true h52) (decide_eq_true h64)))))]
            exact kk
          · refine wp_iinc (loc' := [(0, (ush (ush (msk t) 8) 4)), (0, 15)]) dJ6_numberOfTrailingZeros_0f7a4_67 rfl (by omega) rfl ?_
            refine wp_iload_n dJ6_numberOfTrailingZeros_0f7a4_70 rfl rfl ?_
            refine wp_iconst dJ6_numberOfTrailingZeros_0f7a4_71 (by decide) ?_
            refine wp_iushr dJ6_numberOfTrailingZeros_0f7a4_72 ?_
            refine wp_istore_n (loc' := [(0, (ush (ush (ush (msk t) 8) 4) 2)), (0, 15)]) dJ6_numberOfTrailingZeros_0f7a4_73 rfl (Nat.le_of_ble_eq_true rfl) rfl ?_
            refine wp_iload_n dJ6_numberOfTrailingZeros_0f7a4_74 rfl rfl ?_
            refine wp_iload_n dJ6_numberOfTrailingZeros_0f7a4_75 rfl rfl ?_
            refine wp_iconst dJ6_numberOfTrailingZeros_0f7a4_76 (by decide) ?_
            refine wp_iushr dJ6_numberOfTrailingZeros_0f7a4_77 ?_
            refine wp_iaddw dJ6_numberOfTrailingZeros_0f7a4_78 ?_
            refine wp_iret rfl dJ6_numberOfTrailingZeros_0f7a4_79 ?_
            have e : ∀ t : Nat, t < 32 → (decide ((msk t) > 0) && (decide ((msk t) ≤ 65536) && (decide (¬ ((msk t) ≤ 256)) && (decide (¬ ((ush (msk t) 8) ≤ 16)) && decide (¬ ((ush (ush (msk t) 8) 4) ≤ 4)))))) = true → (wrap (15 + (ush (ush (ush (ush (msk t) 8) 4) 2) 1))) = (t : Int) := by decide +kernel
            rw [e t ht (and_i (decide_eq_true h9) (and_i (decide_eq_true h23) (and_i (decide_eq_true h38) (and_i (decide_eq_true h52) (decide_eq_true h64)))))]
            exact kk
    · refine wp_iinc (loc' := [(0, (msk t)), (0, 17)]) dJ6_numberOfTrailingZeros_0f7a4_26 rfl (by omega) rfl ?_
      refine wp_iload_n dJ6_numberOfTrailingZeros_0f7a4_29 rfl rfl ?_
      refine wp_bipush dJ6_numberOfTrailingZeros_0f7a4_30 (by decide) (by decide) ?_
      refine wp_iushr dJ6_numberOfTrailingZeros_0f7a4_32 ?_
      refine wp_istore_n (loc' := [(0, (ush (msk t) 16)), (0, 17)]) dJ6_numberOfTrailingZeros_0f7a4_33 rfl (Nat.le_of_ble_eq_true rfl) rfl ?_
      refine wp_iload_n dJ6_numberOfTrailingZeros_0f7a4_34 rfl rfl ?_
      refine wp_sipush dJ6_numberOfTrailingZeros_0f7a4_35 (by decide) (by decide) ?_
      refine wp_icmp_le (tgt := 49) dJ6_numberOfTrailingZeros_0f7a4_38 (by decide) (fun h38 => ?_) (fun h38 => ?_)
      · refine wp_iload_n dJ6_numberOfTrailingZeros_0f7a4_49 rfl rfl ?_
        refine wp_bipush dJ6_numberOfTrailingZeros_0f7a4_50 (by decide) (by decide) ?_
        refine wp_icmp_le (tgt := 62) dJ6_numberOfTrailingZeros_0f7a4_52 (by decide) (fun h52 => ?_) (fun h52 => ?_)
        · refine wp_iload_n dJ6_numberOfTrailingZeros_0f7a4_62 rfl rfl ?_
          refine wp_iconst dJ6_numberOfTrailingZeros_0f7a4_63 (by decide) ?_
          refine wp_icmp_le (tgt := 74) dJ6_numberOfTrailingZeros_0f7a4_64 (by decide) (fun h64 => ?_) (fun h64 => ?_)
          · refine wp_iload_n dJ6_numberOfTrailingZeros_0f7a4_74 rfl rfl ?_
            refine wp_iload_n dJ6_numberOfTrailingZeros_0f7a4_75 rfl rfl ?_
            refine wp_iconst dJ6_numberOfTrailingZeros_0f7a4_76 (by decide) ?_
            refine wp_iushr dJ6_numberOfTrailingZeros_0f7a4_77 ?_
            refine wp_iaddw dJ6_numberOfTrailingZeros_0f7a4_78 ?_
            refine wp_iret rfl dJ6_numberOfTrailingZeros_0f7a4_79 ?_
            have e : ∀ t : Nat, t < 32 → (decide ((msk t) > 0) && (decide (¬ ((msk t) ≤ 65536)) && (decide ((ush (msk t) 16) ≤ 256) && (decide ((ush (msk t) 16) ≤ 16) && decide ((ush (msk t) 16) ≤ 4))))) = true → (wrap (17 + (ush (ush (msk t) 16) 1))) = (t : Int) := by decide +kernel
            rw [e t ht (and_i (decide_eq_true h9) (and_i (decide_eq_true h23) (and_i (decide_eq_true h38) (and_i (decide_eq_true h52) (decide_eq_true h64)))))]
            exact kk
          · refine wp_iinc (loc' := [(0, (ush (msk t) 16)), (0, 19)]) dJ6_numberOfTrailingZeros_0f7a4_67 rfl (by omega) rfl ?_
            refine wp_iload_n dJ6_numberOfTrailingZeros_0f7a4_70 rfl rfl ?_
            refine wp_iconst dJ6_numberOfTrailingZeros_0f7a4_71 (by decide) ?_
            refine wp_iushr dJ6_numberOfTrailingZeros_0f7a4_72 ?_
            refine wp_istore_n (loc' := [(0, (ush (ush (msk t) 16) 2)), (0, 19)]) dJ6_numberOfTrailingZeros_0f7a4_73 rfl (Nat.le_of_ble_eq_true rfl) rfl ?_
            refine wp_iload_n dJ6_numberOfTrailingZeros_0f7a4_74 rfl rfl ?_
            refine wp_iload_n dJ6_numberOfTrailingZeros_0f7a4_75 rfl rfl ?_
            refine wp_iconst dJ6_numberOfTrailingZeros_0f7a4_76 (by decide) ?_
            refine wp_iushr dJ6_numberOfTrailingZeros_0f7a4_77 ?_
            refine wp_iaddw dJ6_numberOfTrailingZeros_0f7a4_78 ?_
            refine wp_iret rfl dJ6_numberOfTrailingZeros_0f7a4_79 ?_
            have e : ∀ t : Nat, t < 32 → (decide ((msk t) > 0) && (decide (¬ ((msk t) ≤ 65536)) && (decide ((ush (msk t) 16) ≤ 256) && (decide ((ush (msk t) 16) ≤ 16) && decide (¬ ((ush (msk t) 16) ≤ 4)))))) = true → (wrap (19 + (ush (ush (ush (msk t) 16) 2) 1))) = (t : Int) := by decide +kernel
            rw [e t ht (and_i (decide_eq_true h9) (and_i (decide_eq_true h23) (and_i (decide_eq_true h38) (and_i (decide_eq_true h52) (decide_eq_true h64)))))]
            exact kk
        · refine wp_iinc (loc' := [(0, (ush (msk t) 16)), (0, 21)]) dJ6_numberOfTrailingZeros_0f7a4_55 rfl (by omega) rfl ?_
          refine wp_iload_n dJ6_numberOfTrailingZeros_0f7a4_58 rfl rfl ?_
          refine wp_iconst dJ6_numberOfTrailingZeros_0f7a4_59 (by decide) ?_
          refine wp_iushr dJ6_numberOfTrailingZeros_0f7a4_60 ?_
          refine wp_istore_n (loc' := [(0, (ush (ush (msk t) 16) 4)), (0, 21)]) dJ6_numberOfTrailingZeros_0f7a4_61 rfl (Nat.le_of_ble_eq_true rfl) rfl ?_
          refine wp_iload_n dJ6_numberOfTrailingZeros_0f7a4_62 rfl rfl ?_
          refine wp_iconst dJ6_numberOfTrailingZeros_0f7a4_63 (by decide) ?_
          refine wp_icmp_le (tgt := 74) dJ6_numberOfTrailingZeros_0f7a4_64 (by decide) (fun h64 => ?_) (fun h64 => ?_)
          · refine wp_iload_n dJ6_numberOfTrailingZeros_0f7a4_74 rfl rfl ?_
            refine wp_iload_n dJ6_numberOfTrailingZeros_0f7a4_75 rfl rfl ?_
            refine wp_iconst dJ6_numberOfTrailingZeros_0f7a4_76 (by decide) ?_
            refine wp_iushr dJ6_numberOfTrailingZeros_0f7a4_77 ?_
            refine wp_iaddw dJ6_numberOfTrailingZeros_0f7a4_78 ?_
            refine wp_iret rfl dJ6_numberOfTrailingZeros_0f7a4_79 ?_
            have e : ∀ t : Nat, t < 32 → (decide ((msk t) > 0) && (decide (¬ ((msk t) ≤ 65536)) && (decide ((ush (msk t) 16) ≤ 256) && (decide (¬ ((ush (msk t) 16) ≤ 16)) && decide ((ush (ush (msk t) 16) 4) ≤ 4))))) = true → (wrap (21 + (ush (ush (ush (msk t) 16) 4) 1))) = (t : Int) := by decide +kernel
            rw [e t ht (and_i (decide_eq_true h9) (and_i (decide_eq_true h23) (and_i (decide_eq_true h38) (and_i (decide_eq_true h52) (decide_eq_true h64)))))]
            exact kk
          · refine wp_iinc (loc' := [(0, (ush (ush (msk t) 16) 4)), (0, 23)]) dJ6_numberOfTrailingZeros_0f7a4_67 rfl (by omega) rfl ?_
            refine wp_iload_n dJ6_numberOfTrailingZeros_0f7a4_70 rfl rfl ?_
            refine wp_iconst dJ6_numberOfTrailingZeros_0f7a4_71 (by decide) ?_
            refine wp_iushr dJ6_numberOfTrailingZeros_0f7a4_72 ?_
            refine wp_istore_n (loc' := [(0, (ush (ush (ush (msk t) 16) 4) 2)), (0, 23)]) dJ6_numberOfTrailingZeros_0f7a4_73 rfl (Nat.le_of_ble_eq_true rfl) rfl ?_
            refine wp_iload_n dJ6_numberOfTrailingZeros_0f7a4_74 rfl rfl ?_
            refine wp_iload_n dJ6_numberOfTrailingZeros_0f7a4_75 rfl rfl ?_
            refine wp_iconst dJ6_numberOfTrailingZeros_0f7a4_76 (by decide) ?_
            refine wp_iushr dJ6_numberOfTrailingZeros_0f7a4_77 ?_
            refine wp_iaddw dJ6_numberOfTrailingZeros_0f7a4_78 ?_
            refine wp_iret rfl dJ6_numberOfTrailingZeros_0f7a4_79 ?_
            have e : ∀ t : Nat, t < 32 → (decide ((msk t) > 0) && (decide (¬ ((msk t) ≤ 65536)) && (decide ((ush (msk t) 16) ≤ 256) && (decide (¬ ((ush (msk t) 16) ≤ 16)) && decide (¬ ((ush (ush (msk t) 16) 4) ≤ 4)))))) = true → (wrap (23 + (ush (ush (ush (ush (msk t) 16) 4) 2) 1))) = (t : Int) := by decide +kernel
            rw [e t ht (and_i (decide_eq_true h9) (and_i (decide_eq_true h23) (and_i (decide_eq_true h38) (and_i (decide_eq_true h52) (decide_eq_true h64)))))]
            exact kk
      · refine wp_iinc (loc' := [(0, (ush (msk t) 16)), (0, 25)]) dJ6_numberOfTrailingZeros_0f7a4_41 rfl (by omega) rfl ?_
        refine wp_iload_n dJ6_numberOfTrailingZeros_0f7a4_44 rfl rfl ?_
        refine wp_bipush dJ6_numberOfTrailingZeros_0f7a4_45 (by decide) (by decide) ?_
        refine wp_iushr dJ6_numberOfTrailingZeros_0f7a4_47 ?_
        refine wp_istore_n (loc' := [(0, (ush (ush (msk t) 16) 8)), (0, 25)]) dJ6_numberOfTrailingZeros_0f7a4_48 rfl (Nat.le_of_ble_eq_true rfl) rfl ?_
        refine wp_iload_n dJ6_numberOfTrailingZeros_0f7a4_49 rfl rfl ?_
        refine wp_bipush dJ6_numberOfTrailingZeros_0f7a4_50 (by decide) (by decide) ?_
        refine wp_icmp_le (tgt := 62) dJ6_numberOfTrailingZeros_0f7a4_52 (by decide) (fun h52 => ?_) (fun h52 => ?_)
        · refine wp_iload_n dJ6_numberOfTrailingZeros_0f7a4_62 rfl rfl ?_
          refine wp_iconst dJ6_numberOfTrailingZeros_0f7a4_63 (by decide) ?_
          refine wp_icmp_le (tgt := 74) dJ6_numberOfTrailingZeros_0f7a4_64 (by decide) (fun h64 => ?_) (fun h64 => ?_)
          · refine wp_iload_n dJ6_numberOfTrailingZeros_0f7a4_74 rfl rfl ?_
            refine wp_iload_n dJ6_numberOfTrailingZeros_0f7a4_75 rfl rfl ?_
            refine wp_iconst dJ6_numberOfTrailingZeros_0f7a4_76 (by decide) ?_
            refine wp_iushr dJ6_numberOfTrailingZeros_0f7a4_77 ?_
            refine wp_iaddw dJ6_numberOfTrailingZeros_0f7a4_78 ?_
            refine wp_iret rfl dJ6_numberOfTrailingZeros_0f7a4_79 ?_
            have e : ∀ t : Nat, t < 32 → (decide ((msk t) > 0) && (decide (¬ ((msk t) ≤ 65536)) && (decide (¬ ((ush (msk t) 16) ≤ 256)) && (decide ((ush (ush (msk t) 16) 8) ≤ 16) && decide ((ush (ush (msk t) 16) 8) ≤ 4))))) = true → (wrap (25 + (ush (ush (ush (msk t) 16) 8) 1))) = (t : Int) := by decide +kernel
            rw [e t ht (and_i (decide_eq_true h9) (and_i (decide_eq_true h23) (and_i (decide_eq_true h38) (and_i (decide_eq_true h52) (decide_eq_true h64)))))]
            exact kk
          · refine wp_iinc (loc' := [(0, (ush (ush (msk t) 16) 8)), (0, 27)]) dJ6_numberOfTrailingZeros_0f7a4_67 rfl (by omega) rfl ?_
            refine wp_iload_n dJ6_numberOfTrailingZeros_0f7a4_70 rfl rfl ?_
            refine wp_iconst dJ6_numberOfTrailingZeros_0f7a4_71 (by decide) ?_
            refine wp_iushr dJ6_numberOfTrailingZeros_0f7a4_72 ?_
            refine wp_istore_n (loc' := [(0, (ush (ush (ush (msk t) 16) 8) 2)), (0, 27)]) dJ6_numberOfTrailingZeros_0f7a4_73 rfl (Nat.le_of_ble_eq_true rfl) rfl ?_
            refine wp_iload_n dJ6_numberOfTrailingZeros_0f7a4_74 rfl rfl ?_
            refine wp_iload_n dJ6_numberOfTrailingZeros_0f7a4_75 rfl rfl ?_
            refine wp_iconst dJ6_numberOfTrailingZeros_0f7a4_76 (by decide) ?_
            refine wp_iushr dJ6_numberOfTrailingZeros_0f7a4_77 ?_
            refine wp_iaddw dJ6_numberOfTrailingZeros_0f7a4_78 ?_
            refine wp_iret rfl dJ6_numberOfTrailingZeros_0f7a4_79 ?_
            have e : ∀ t : Nat, t < 32 → (decide ((msk t) > 0) && (decide (¬ ((msk t) ≤ 65536)) && (decide (¬ ((ush (msk t) 16) ≤ 256)) && (decide ((ush (ush (msk t) 16) 8) ≤ 16) && decide (¬ ((ush (ush (msk t) 16) 8) ≤ 4)))))) = true → (wrap (27 + (ush (ush (ush (ush (msk t) 16) 8) 2) 1))) = (t : Int) := by decide +kernel
            rw [e t ht (and_i (decide_eq_true h9) (and_i (decide_eq_true h23) (and_i (decide_eq_true h38) (and_i (decide_eq_true h52) (decide_eq_true h64)))))]
            exact kk
        · refine wp_iinc (loc' := [(0, (ush (ush (msk t) 16) 8)), (0, 29)]) dJ6_numberOfTrailingZeros_0f7a4_55 rfl (by omega) rfl ?_
          refine wp_iload_n dJ6_numberOfTrailingZeros_0f7a4_58 rfl rfl ?_
          refine wp_iconst dJ6_numberOfTrailingZeros_0f7a4_59 (by decide) ?_
          refine wp_iushr dJ6_numberOfTrailingZeros_0f7a4_60 ?_
          refine wp_istore_n (loc' := [(0, (ush (ush (ush (msk t) 16) 8) 4)), (0, 29)]) dJ6_numberOfTrailingZeros_0f7a4_61 rfl (Nat.le_of_ble_eq_true rfl) rfl ?_
          refine wp_iload_n dJ6_numberOfTrailingZeros_0f7a4_62 rfl rfl ?_
          refine wp_iconst dJ6_numberOfTrailingZeros_0f7a4_63 (by decide) ?_
          refine wp_icmp_le (tgt := 74) dJ6_numberOfTrailingZeros_0f7a4_64 (by decide) (fun h64 => ?_) (fun h64 => ?_)
          · refine wp_iload_n dJ6_numberOfTrailingZeros_0f7a4_74 rfl rfl ?_
            refine wp_iload_n dJ6_numberOfTrailingZeros_0f7a4_75 rfl rfl ?_
            refine wp_iconst dJ6_numberOfTrailingZeros_0f7a4_76 (by decide) ?_
            refine wp_iushr dJ6_numberOfTrailingZeros_0f7a4_77 ?_
            refine wp_iaddw dJ6_numberOfTrailingZeros_0f7a4_78 ?_
            refine wp_iret rfl dJ6_numberOfTrailingZeros_0f7a4_79 ?_
            have e : ∀ t : Nat, t < 32 → (decide ((msk t) > 0) && (decide (¬ ((msk t) ≤ 65536)) && (decide (¬ ((ush (msk t) 16) ≤ 256)) && (decide (¬ ((ush (ush (msk t) 16) 8) ≤ 16)) && decide ((ush (ush (ush (msk t) 16) 8) 4) ≤ 4))))) = true → (wrap (29 + (ush (ush (ush (ush (msk t) 16) 8) 4) 1))) = (t : Int) := by decide +kernel
            rw [e t ht (and_i (decide_eq_true h9) (and_i (decide_eq_true h23) (and_i (decide_eq_true h38) (and_i (decide_eq_true h52) (decide_eq_true h64)))))]
            exact kk
          · refine wp_iinc (loc' := [(0, (ush (ush (ush (msk t) 16) 8) 4)), (0, 31)]) dJ6_numberOfTrailingZeros_0f7a4_67 rfl (by omega) rfl ?_
            refine wp_iload_n dJ6_numberOfTrailingZeros_0f7a4_70 rfl rfl ?_
            refine wp_iconst dJ6_numberOfTrailingZeros_0f7a4_71 (by decide) ?_
            refine wp_iushr dJ6_numberOfTrailingZeros_0f7a4_72 ?_
            refine wp_istore_n (loc' := [(0, (ush (ush (ush (ush (msk t) 16) 8) 4) 2)), (0, 31)]) dJ6_numberOfTrailingZeros_0f7a4_73 rfl (Nat.le_of_ble_eq_true rfl) rfl ?_
            refine wp_iload_n dJ6_numberOfTrailingZeros_0f7a4_74 rfl rfl ?_
            refine wp_iload_n dJ6_numberOfTrailingZeros_0f7a4_75 rfl rfl ?_
            refine wp_iconst dJ6_numberOfTrailingZeros_0f7a4_76 (by decide) ?_
            refine wp_iushr dJ6_numberOfTrailingZeros_0f7a4_77 ?_
            refine wp_iaddw dJ6_numberOfTrailingZeros_0f7a4_78 ?_
            refine wp_iret rfl dJ6_numberOfTrailingZeros_0f7a4_79 ?_
            have e : ∀ t : Nat, t < 32 → (decide ((msk t) > 0) && (decide (¬ ((msk t) ≤ 65536)) && (decide (¬ ((ush (msk t) 16) ≤ 256)) && (decide (¬ ((ush (ush (msk t) 16) 8) ≤ 16)) && decide (¬ ((ush (ush (ush (msk t) 16) 8) 4) ≤ 4)))))) = true → (wrap (31 + (ush (ush (ush (ush (ush (msk t) 16) 8) 4) 2) 1))) = (t : Int) := by decide +kernel
            rw [e t ht (and_i (decide_eq_true h9) (and_i (decide_eq_true h23) (and_i (decide_eq_true h38) (and_i (decide_eq_true h52) (decide_eq_true h64)))))]
            exact kk
  · refine wp_iload_n dJ6_numberOfTrailingZeros_0f7a4_12 rfl rfl ?_
    refine wp_bipush dJ6_numberOfTrailingZeros_0f7a4_13 (by decide) (by decide) ?_
    refine wp_iand dJ6_numberOfTrailingZeros_0f7a4_15 ?_
    refine wp_iret rfl dJ6_numberOfTrailingZeros_0f7a4_16 ?_
    have e : ∀ t : Nat, t < 32 → decide (¬ ((msk t) > 0)) = true → (bnd (msk t) 32) = (t : Int) := by decide +kernel
    rw [e t ht (decide_eq_true h9)]
    exact kk
theorem wrap_n0 {m : Nat} (h : wrap (m : Int) = 0) : m % 4294967296 = 0 := by
  unfold wrap at h
  rw [Int.bmod_def] at h
  split at h <;> omega
theorem wrap_n1 {m : Nat} (h : wrap (m : Int) ≠ 0) : m % 4294967296 ≠ 0 := by
  intro c
  apply h
  unfold wrap
  rw [Int.bmod_def]
  split <;> omega
theorem tz_hi {m t k : Nat} (hm : m = 2 ^ t * (2 * k + 1)) (h : m % 4294967296 = 0) : 32 ≤ t ∧ m / 2 ^ 32 = 2 ^ (t - 32) * (2 * k + 1) := by
  by_cases c : 32 ≤ t
  · refine ⟨c, ?_⟩
    obtain ⟨r, rfl⟩ : ∃ r, t = 32 + r := ⟨t - 32, by omega⟩
    rw [hm, Nat.add_sub_cancel_left, Nat.pow_add, Nat.mul_assoc, Nat.mul_div_cancel_left _ (Nat.two_pow_pos 32)]
  · exfalso
    obtain ⟨r, hr⟩ : ∃ r, 32 = t + 1 + r := ⟨31 - t, by omega⟩
    have h2 : 2 ^ (t + 1) ∣ m := by
      refine Nat.dvd_trans ?_ (Nat.dvd_of_mod_eq_zero h)
      exact ⟨2 ^ r, by rw [← Nat.pow_add, ← hr]⟩
    rw [hm, Nat.pow_succ] at h2
    have h3 := Nat.dvd_of_mul_dvd_mul_left (Nat.two_pow_pos t) h2
    omega
theorem tz_lo {m t k : Nat} (hm : m = 2 ^ t * (2 * k + 1)) (h : m % 4294967296 ≠ 0) : t < 32 := by
  rcases Nat.lt_or_ge t 32 with c | c
  · exact c
  · exfalso
    apply h
    obtain ⟨r, rfl⟩ : ∃ r, t = 32 + r := ⟨t - 32, by omega⟩
    rw [hm, Nat.pow_add, Nat.mul_assoc, show (2 : Nat) ^ 32 = 4294967296 from rfl]
    exact Nat.mul_mod_right _ _
set_option maxRecDepth 20000 in
set_option maxHeartbeats 4000000 in
theorem sp_ntzL {l : Launch} {g : Gw} {d n : Nat} {M : Mm} {Q : Option Wd → Mm → Prop} (hd : 2 ≤ d) {m t k : Nat} (hm : m = 2 ^ t * (2 * k + 1)) (hlt : m < 9223372036854775808) (ht : t < 64) (kk : Q (some (0, (t : Int))) M) : Wp l g d 0 0 n m_J13_numberOfTrailingZeros_95d88 0 [] [(1, (m : Int)), (9, 0), (9, 0)] M Q := by
  refine wp_lload_n dJ13_numberOfTrailingZeros_95d88_0 rfl rfl ?_
  refine wp_l2i dJ13_numberOfTrailingZeros_95d88_1 ?_
  refine wp_istore_n (loc' := [(1, (m : Int)), (9, 0), (0, (wrap (m : Int)))]) dJ13_numberOfTrailingZeros_95d88_2 rfl (Nat.le_of_ble_eq_true rfl) rfl ?_
  refine wp_iload_n dJ13_numberOfTrailingZeros_95d88_3 rfl rfl ?_
  refine wp_if_ne (tgt := 21) dJ13_numberOfTrailingZeros_95d88_4 (by decide) (fun h4 => ?_) (fun h4 => ?_)
  · have ht32 := tz_lo hm (wrap_n1 h4)
    refine wp_iload_n dJ13_numberOfTrailingZeros_95d88_21 rfl rfl ?_
    refine wp_callS0 (d' := d - 1) cs_RJ13_311 [(0, (wrap (m : Int)))] [] rfl rfl (Nat.le_of_ble_eq_true rfl) dJ13_numberOfTrailingZeros_95d88_22 rfl (Nat.le_of_ble_eq_true rfl) (by omega) (loc1 := [(0, (wrap (m : Int))), (9, 0)]) rfl ?_
    refine sp_ntzI (m := m) (t := t) (k := k) hm (by omega) ?_
    refine wp_iret rfl dJ13_numberOfTrailingZeros_95d88_25 ?_
    exact kk
  · obtain ⟨h32, e32⟩ := tz_hi hm (wrap_n0 (by omega))
    refine wp_bipush dJ13_numberOfTrailingZeros_95d88_7 (by decide) (by decide) ?_
    refine wp_lload_n dJ13_numberOfTrailingZeros_95d88_9 rfl rfl ?_
    refine wp_bipush dJ13_numberOfTrailingZeros_95d88_10 (by decide) (by decide) ?_
    refine wp_lushr dJ13_numberOfTrailingZeros_95d88_12 ?_
    refine wp_l2i dJ13_numberOfTrailingZeros_95d88_13 ?_
    refine wp_callS0 (d' := d - 1) cs_RJ13_311 [(0, (wrap (lus (m : Int) 32)))] [(0, 32)] rfl rfl (Nat.le_of_ble_eq_true rfl) dJ13_numberOfTrailingZeros_95d88_14 rfl (Nat.le_of_ble_eq_true rfl) (by omega) (loc1 := [(0, (wrap (lus (m : Int) 32))), (9, 0)]) rfl ?_
    rw [show lus (m : Int) 32 = ((m / 2 ^ 32 : Nat) : Int) from lus_n (k := 32) (by decide) (by omega)]
    refine sp_ntzI (m := m / 2 ^ 32) (t := t - 32) (k := k) e32 (by omega) ?_
    refine wp_iadd dJ13_numberOfTrailingZeros_95d88_17 (by omega) ?_
    refine wp_goto (tgt := 25) dJ13_numberOfTrailingZeros_95d88_18 (by decide) ?_
    refine wp_iret rfl dJ13_numberOfTrailingZeros_95d88_25 ?_
    rw [show (32 + ((t - 32 : Nat) : Int)) = (t : Int) by omega]
    exact kk
