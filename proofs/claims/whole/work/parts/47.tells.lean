/-! ===== Long.bitCount ===== -/
theorem rep5 : rep 85 8 = 6148914691236517205 := by decide
theorem rep3 : rep 51 8 = 3689348814741910323 := by decide
theorem repF : rep 15 8 = 1085102592571150095 := by decide
theorem lsub_n {a b : Nat} (h : b ≤ a) (ha : a < 9223372036854775808) : wrapl ((a : Int) - (b : Int)) = ((a - b : Nat) : Int) := by rw [wrapl_id (by omega)]; omega
theorem ladd_n {a b : Nat} (h : a + b < 9223372036854775808) : wrapl ((a : Int) + (b : Int)) = ((a + b : Nat) : Int) := by rw [wrapl_id (by omega)]; omega
theorem bc1 {m : Nat} (h : m < 281474976710656) : wrapl ((m : Int) - lnd (lus (m : Int) 1) 6148914691236517205) = ((g1 (rep 85 8) m : Nat) : Int) := by
  have e := lus_n (n := m) (k := 1) (by decide) (by omega)
  have e2 := lnd_n (a := m / 2) (b := rep 85 8) (by omega) (by rw [rep5]; omega)
  have h3 : m / 2 &&& rep 85 8 ≤ m / 2 := Nat.and_le_left
  rw [show ((1 : Nat) : Int) = 1 from rfl, show m / 2 ^ 1 = m / 2 from rfl] at e
  rw [show ((rep 85 8 : Nat) : Int) = 6148914691236517205 by rw [rep5]; rfl] at e2
  rw [e, e2, lsub_n (by omega) (by omega)]
  rfl
theorem bc2 {m : Nat} (h : m < 281474976710656) : wrapl (lnd (m : Int) 3689348814741910323 + lnd (lus (m : Int) 2) 3689348814741910323) = ((g2 (rep 51 8) m : Nat) : Int) := by
  have e := lus_n (n := m) (k := 2) (by decide) (by omega)
  have e1 := lnd_n (a := m) (b := rep 51 8) (by omega) (by rw [rep3]; omega)
  have e2 := lnd_n (a := m / 4) (b := rep 51 8) (by omega) (by rw [rep3]; omega)
  have h3 : m / 4 &&& rep 51 8 ≤ m / 4 := Nat.and_le_left
  have h4 : m &&& rep 51 8 ≤ m := Nat.and_le_left
  rw [show ((2 : Nat) : Int) = 2 from rfl, show m / 2 ^ 2 = m / 4 from rfl] at e
  rw [show ((rep 51 8 : Nat) : Int) = 3689348814741910323 by rw [rep3]; rfl] at e1 e2
  rw [e, e1, e2, ladd_n (by omega)]
  rfl
theorem bc3 {m : Nat} (h : m < 562949953421312) : lnd (wrapl ((m : Int) + lus (m : Int) 4)) 1085102592571150095 = ((g3 (rep 15 8) m : Nat) : Int) := by
  have e := lus_n (n := m) (k := 4) (by decide) (by omega)
  have e1 := lnd_n (a := m + m / 16) (b := rep 15 8) (by omega) (by rw [repF]; omega)
  rw [show ((4 : Nat) : Int) = 4 from rfl, show m / 2 ^ 4 = m / 16 from rfl] at e
  rw [show ((rep 15 8 : Nat) : Int) = 1085102592571150095 by rw [repF]; rfl] at e1
  rw [e, ladd_n (by omega), e1]
  rfl
theorem bc4 {m k : Nat} (hk : k < 64) (h : m < 4611686018427387904) : wrapl ((m : Int) + lus (m : Int) (k : Int)) = ((m + m / 2 ^ k : Nat) : Int) := by
  have hl : m / 2 ^ k ≤ m := Nat.div_le_self _ _
  rw [lus_n hk (by omega), ladd_n (by omega)]
theorem bc5 (m : Nat) : bnd (wrap (m : Int)) 127 = ((m % 128 : Nat) : Int) := by
  unfold bnd
  rw [r_wrap, wb_n, show Int32.ofInt 127 = nI 127 by decide]
  have hb : nI m &&& nI 127 = nI (m % 128) := by
    apply b_ext
    intro i hi
    rw [b_and, bt_n _ _ hi, bt_n _ _ hi, bt_n _ _ hi, ← Nat.testBit_and]
    exact congrArg (fun z => Nat.testBit z i) (Nat.and_two_pow_sub_one_eq_mod m 7)
  rw [hb]
  show (nI (m % 128)).toBitVec.toInt = _
  have hn : (nI (m % 128)).toBitVec.toNat = m % 128 := by
    show (BitVec.ofNat 32 (m % 128)).toNat = _
    rw [BitVec.toNat_ofNat, Nat.mod_eq_of_lt (by omega)]
  rw [BitVec.toInt_eq_toNat_of_lt (by rw [hn]; omega), hn]
theorem g1_le (m x : Nat) : g1 m x ≤ x := Nat.sub_le _ _
theorem g2_le (m x : Nat) : g2 m x ≤ 2 * x := by
  unfold g2
  have h1 : x &&& m ≤ x := Nat.and_le_left
  have h2 : x / 4 &&& m ≤ x / 4 := Nat.and_le_left
  omega
theorem bsm {z p0 p1 p2 p3 p4 p5 : Nat} (hz : z = p0 + 256 * (p1 + 256 * (p2 + 256 * (p3 + 256 * (p4 + 256 * p5))))) (h0 : p0 ≤ 8) (h1 : p1 ≤ 8) (h2 : p2 ≤ 8) (h3 : p3 ≤ 8) (h4 : p4 ≤ 8) (h5 : p5 ≤ 8) :
    z < 10000000000000 ∧ z + z / 256 < 20000000000000 ∧ z + z / 256 + (z + z / 256) / 65536 < 40000000000000 ∧ (z + z / 256 + (z + z / 256) / 65536 + (z + z / 256 + (z + z / 256) / 65536) / 4294967296) % 128 = p0 + p1 + p2 + p3 + p4 + p5 := by
  have e1 : z / 256 = p1 + 256 * (p2 + 256 * (p3 + 256 * (p4 + 256 * p5))) := by omega
  rw [e1]
  have e2 : z + (p1 + 256 * (p2 + 256 * (p3 + 256 * (p4 + 256 * p5)))) = (p0 + p1) + 256 * ((p1 + p2) + 256 * ((p2 + p3) + 256 * ((p3 + p4) + 256 * ((p4 + p5) + 256 * p5)))) := by omega
  rw [e2]
  have e3 : ((p0 + p1) + 256 * ((p1 + p2) + 256 * ((p2 + p3) + 256 * ((p3 + p4) + 256 * ((p4 + p5) + 256 * p5))))) / 65536 = (p2 + p3) + 256 * ((p3 + p4) + 256 * ((p4 + p5) + 256 * p5)) := by omega
  rw [e3]
  have e4 : (p0 + p1) + 256 * ((p1 + p2) + 256 * ((p2 + p3) + 256 * ((p3 + p4) + 256 * ((p4 + p5) + 256 * p5)))) + ((p2 + p3) + 256 * ((p3 + p4) + 256 * ((p4 + p5) + 256 * p5))) = (p0 + p1 + p2 + p3) + 256 * (p1 + p2 + p3 + p4) + 65536 * (p2 + p3 + p4 + p5) + 16777216 * (p3 + p4 + p5) + 4294967296 * (p4 + p5 + 256 * p5) := by omega
  rw [e4]
  have e5 : ((p0 + p1 + p2 + p3) + 256 * (p1 + p2 + p3 + p4) + 65536 * (p2 + p3 + p4 + p5) + 16777216 * (p3 + p4 + p5) + 4294967296 * (p4 + p5 + 256 * p5)) / 4294967296 = p4 + p5 + 256 * p5 := by omega
  rw [e5]
  refine ⟨by omega, by omega, by omega, ?_⟩
  omega
theorem byts_pop {m : Nat} (h : m < 281474976710656) : ∃ p0 p1 p2 p3 p4 p5 : Nat, byts 8 m = p0 + 256 * (p1 + 256 * (p2 + 256 * (p3 + 256 * (p4 + 256 * p5)))) ∧ p0 ≤ 8 ∧ p1 ≤ 8 ∧ p2 ≤ 8 ∧ p3 ≤ 8 ∧ p4 ≤ 8 ∧ p5 ≤ 8 ∧ pop 48 m = p0 + p1 + p2 + p3 + p4 + p5 := by
  refine ⟨pop 8 (m % 256), pop 8 (m / 256 % 256), pop 8 (m / 256 / 256 % 256), pop 8 (m / 256 / 256 / 256 % 256), pop 8 (m / 256 / 256 / 256 / 256 % 256), pop 8 (m / 256 / 256 / 256 / 256 / 256 % 256), ?_, byts_r _ (by omega), byts_r _ (by omega), byts_r _ (by omega), byts_r _ (by omega), byts_r _ (by omega), byts_r _ (by omega), ?_⟩
  · have z1 : m / 256 / 256 / 256 / 256 / 256 / 256 = 0 := by omega
    have z2 : byts 2 0 = 0 := by decide
    show pop 8 (m % 256) + 256 * (pop 8 (m / 256 % 256) + 256 * (pop 8 (m / 256 / 256 % 256) + 256 * (pop 8 (m / 256 / 256 / 256 % 256) + 256 * (pop 8 (m / 256 / 256 / 256 / 256 % 256) + 256 * (pop 8 (m / 256 / 256 / 256 / 256 / 256 % 256) + 256 * byts 2 (m / 256 / 256 / 256 / 256 / 256 / 256)))))) = _
    rw [z1, z2, Nat.mul_zero, Nat.add_zero]
  · have q := fun k x => pop_split 8 k x
    rw [show (48 : Nat) = 8 + (8 + (8 + (8 + (8 + (8 + 0))))) from rfl, q, q, q, q, q, q]
    show pop 8 (m % 256) + (pop 8 (m / 256 % 256) + (pop 8 (m / 256 / 256 % 256) + (pop 8 (m / 256 / 256 / 256 % 256) + (pop 8 (m / 256 / 256 / 256 / 256 % 256) + (pop 8 (m / 256 / 256 / 256 / 256 / 256 % 256) + 0))))) = _
    omega
set_option maxRecDepth 20000 in
set_option maxHeartbeats 4000000 in
theorem sp_bitCount {l : Launch} {g : Gw} {d n : Nat} {M : Mm} {Q : Option Wd → Mm → Prop} {m : Nat} (hm : m < 281474976710656) (k : Q (some (0, (pop 48 m : Int))) M) : Wp l g d 0 0 n m_J13_bitCount_95d88 0 [] [(1, (m : Int)), (9, 0)] M Q := by
  have hy1 := g1_le (rep 85 8) m
  have hy2 := g2_le (rep 51 8) (g1 (rep 85 8) m)
  have hz0 := (g_all 8 m (by omega)).2
  obtain ⟨p0, p1, p2, p3, p4, p5, hb, q0, q1, q2, q3, q4, q5, hp⟩ := byts_pop hm
  have hs := bsm hb q0 q1 q2 q3 q4 q5
  generalize ey1 : g1 (rep 85 8) m = y1 at *
  generalize ey2 : g2 (rep 51 8) y1 = y2 at *
  generalize ez0 : byts 8 m = z0 at *
  generalize ez1 : z0 + z0 / 256 = z1 at *
  generalize ez2 : z1 + z1 / 65536 = z2 at *
  generalize ez3 : z2 + z2 / 4294967296 = z3 at *
  refine wp_lload_n dJ13_bitCount_95d88_0 rfl rfl ?_
  refine wp_lload_n dJ13_bitCount_95d88_1 rfl rfl ?_
  refine wp_iconst dJ13_bitCount_95d88_2 (by decide) ?_
  refine wp_lushr dJ13_bitCount_95d88_3 ?_
  refine wp_ldc2 (x := 6148914691236517205) dJ13_bitCount_95d88_4 kl_RJ13_314 (by decide) (wr_l (by omega)) ?_
  refine wp_land dJ13_bitCount_95d88_7 ?_
  refine wp_lsub dJ13_bitCount_95d88_8 ?_
  refine wp_lstore_n (loc' := [(1, (wrapl ((m : Int) - (lnd (lus (m : Int) 1) 6148914691236517205)))), (9, 0)]) dJ13_bitCount_95d88_9 rfl (Nat.le_of_ble_eq_true rfl) rfl ?_
  rw [show (wrapl ((m : Int) - (lnd (lus (m : Int) 1) 6148914691236517205))) = (y1 : Int) from (bc1 hm).trans (congrArg Nat.cast ey1)]
  refine wp_lload_n dJ13_bitCount_95d88_10 rfl rfl ?_
  refine wp_ldc2 (x := 3689348814741910323) dJ13_bitCount_95d88_11 kl_RJ13_316 (by decide) (wr_l (by omega)) ?_
  refine wp_land dJ13_bitCount_95d88_14 ?_
  refine wp_lload_n dJ13_bitCount_95d88_15 rfl rfl ?_
  refine wp_iconst dJ13_bitCount_95d88_16 (by decide) ?_
  refine wp_lushr dJ13_bitCount_95d88_17 ?_
  refine wp_ldc2 (x := 3689348814741910323) dJ13_bitCount_95d88_18 kl_RJ13_316 (by decide) (wr_l (by omega)) ?_
  refine wp_land dJ13_bitCount_95d88_21 ?_
  refine wp_ladd dJ13_bitCount_95d88_22 ?_
  refine wp_lstore_n (loc' := [(1, (wrapl ((lnd (y1 : Int) 3689348814741910323) + (lnd (lus (y1 : Int) 2) 3689348814741910323)))), (9, 0)]) dJ13_bitCount_95d88_23 rfl (Nat.le_of_ble_eq_true rfl) rfl ?_
  rw [show (wrapl ((lnd (y1 : Int) 3689348814741910323) + (lnd (lus (y1 : Int) 2) 3689348814741910323))) = (y2 : Int) from (bc2 (by omega)).trans (congrArg Nat.cast ey2)]
  refine wp_lload_n dJ13_bitCount_95d88_24 rfl rfl ?_
  refine wp_lload_n dJ13_bitCount_95d88_25 rfl rfl ?_
  refine wp_iconst dJ13_bitCount_95d88_26 (by decide) ?_
  refine wp_lushr dJ13_bitCount_95d88_27 ?_
  refine wp_ladd dJ13_bitCount_95d88_28 ?_
  refine wp_ldc2 (x := 1085102592571150095) dJ13_bitCount_95d88_29 kl_RJ13_318 (by decide) (wr_l (by omega)) ?_
  refine wp_land dJ13_bitCount_95d88_32 ?_
  refine wp_lstore_n (loc' := [(1, (lnd (wrapl ((y2 : Int) + (lus (y2 : Int) 4))) 1085102592571150095)), (9, 0)]) dJ13_bitCount_95d88_33 rfl (Nat.le_of_ble_eq_true rfl) rfl ?_
  rw [show (lnd (wrapl ((y2 : Int) + (lus (y2 : Int) 4))) 1085102592571150095) = (z0 : Int) from (bc3 (by omega)).trans (congrArg Nat.cast hz0)]
  refine wp_lload_n dJ13_bitCount_95d88_34 rfl rfl ?_
  refine wp_lload_n dJ13_bitCount_95d88_35 rfl rfl ?_
  refine wp_bipush dJ13_bitCount_95d88_36 (by decide) (by decide) ?_
  refine wp_lushr dJ13_bitCount_95d88_38 ?_
  refine wp_ladd dJ13_bitCount_95d88_39 ?_
  refine wp_lstore_n (loc' := [(1, (wrapl ((z0 : Int) + (lus (z0 : Int) 8)))), (9, 0)]) dJ13_bitCount_95d88_40 rfl (Nat.le_of_ble_eq_true rfl) rfl ?_
  rw [show (wrapl ((z0 : Int) + (lus (z0 : Int) 8))) = (z1 : Int) from (bc4 (k := 8) (by decide) (by omega)).trans (congrArg Nat.cast ez1)]
  refine wp_lload_n dJ13_bitCount_95d88_41 rfl rfl ?_
  refine wp_lload_n dJ13_bitCount_95d88_42 rfl rfl ?_
  refine wp_bipush dJ13_bitCount_95d88_43 (by decide) (by decide) ?_
  refine wp_lushr dJ13_bitCount_95d88_45 ?_
  refine wp_ladd dJ13_bitCount_95d88_46 ?_
  refine wp_lstore_n (loc' := [(1, (wrapl ((z1 : Int) + (lus (z1 : Int) 16)))), (9, 0)]) dJ13_bitCount_95d88_47 rfl (Nat.le_of_ble_eq_true rfl) rfl ?_
  rw [show (wrapl ((z1 : Int) + (lus (z1 : Int) 16))) = (z2 : Int) from (bc4 (k := 16) (by decide) (by omega)).trans (congrArg Nat.cast ez2)]
  refine wp_lload_n dJ13_bitCount_95d88_48 rfl rfl ?_
  refine wp_lload_n dJ13_bitCount_95d88_49 rfl rfl ?_
  refine wp_bipush dJ13_bitCount_95d88_50 (by decide) (by decide) ?_
  refine wp_lushr dJ13_bitCount_95d88_52 ?_
  refine wp_ladd dJ13_bitCount_95d88_53 ?_
  refine wp_lstore_n (loc' := [(1, (wrapl ((z2 : Int) + (lus (z2 : Int) 32)))), (9, 0)]) dJ13_bitCount_95d88_54 rfl (Nat.le_of_ble_eq_true rfl) rfl ?_
  rw [show (wrapl ((z2 : Int) + (lus (z2 : Int) 32))) = (z3 : Int) from (bc4 (k := 32) (by decide) (by omega)).trans (congrArg Nat.cast ez3)]
  refine wp_lload_n dJ13_bitCount_95d88_55 rfl rfl ?_
  refine wp_l2i dJ13_bitCount_95d88_56 ?_
  refine wp_bipush dJ13_bitCount_95d88_57 (by decide) (by decide) ?_
  refine wp_iand dJ13_bitCount_95d88_59 ?_
  refine wp_iret rfl dJ13_bitCount_95d88_60 ?_
  rw [bc5, show z3 % 128 = pop 48 m from hs.2.2.2.trans hp.symm]
  exact k
