/-! ===== the model: tells, image, back ===== -/
theorem tpC_all (F : Nat → Bool) (H : Nat) : tpC F H 0 = cntF F H := by
  have h := tpC_sum F H 0
  have z : cntF F 0 = 0 := rfl
  rw [Nat.zero_add] at h
  omega
theorem tpS_all (F : Nat → Bool) (H : Nat) : tpS F H 0 = bsum F H := by
  have h := tpS_sum F H 0
  have z : bsum F 0 = 0 := rfl
  rw [Nat.zero_add] at h
  omega
theorem tls_1 {E : Ev} {f : Nat → Int} {N : Nat} {x : Int} {A : Ls} {o : Int} : tlsA E f N x A o 1 = ((bsum (fitF E f N A 1 o) 6 : Nat) : Int) := by
  unfold tlsA
  rw [if_neg (by decide), if_neg (by decide), if_neg (by decide), show hmA x 1 = 6 from rfl]
theorem tls_2 {E : Ev} {f : Nat → Int} {N : Nat} {x : Int} {A : Ls} {o : Int} : tlsA E f N x A o 2 = ((bsum (fitF E f N A 2 o) 10 : Nat) : Int) := by
  unfold tlsA
  rw [if_neg (by decide), if_neg (by decide), if_neg (by decide), show hmA x 2 = 10 from rfl]
theorem tls_3 {E : Ev} {f : Nat → Int} {N : Nat} {x : Int} {A : Ls} {o : Int} : tlsA E f N x A o 3 = ((cntF (fitF E f N A 3 o) 41 : Nat) : Int) := by
  unfold tlsA
  rw [if_neg (by decide), if_pos rfl, show hmA x 3 = 41 from rfl]
theorem tls_4 {E : Ev} {f : Nat → Int} {N : Nat} {x : Int} {A : Ls} {o : Int} : tlsA E f N x A o 4 = lstF (fitF E f N A 4 o) 41 0 := by
  unfold tlsA
  rw [if_neg (by decide), if_neg (by decide), if_pos rfl, show hmA x 4 = 41 from rfl]
theorem tls_5 {E : Ev} {f : Nat → Int} {N : Nat} {x : Int} {A : Ls} {o : Int} : tlsA E f N x A o 5 = ((bsum (fitF E f N A 5 o) x.toNat : Nat) : Int) := by
  unfold tlsA
  rw [if_neg (by decide), if_neg (by decide), if_neg (by decide), show hmA x 5 = x.toNat from rfl]
set_option maxRecDepth 20000 in
set_option maxHeartbeats 4000000 in
theorem sp_tlsm_0 {l : Launch} {g : Gw} {d n : Nat} {M : Mm} {Q : Option Wd → Mm → Prop} (hn : 90 ≤ n) {A : Ls} {E : Ev} (hI : MJ M A E) (hd : 78 ≤ d) {B : Mm} (hB : Rms M B) (hV : Ws B) {s : Nat} (hs : s < 4) (hT : B s 0 ≠ -1) (h30 : B s 1 ≤ 30) (o : Int) (ho : 0 ≤ o ∧ o < A.1 2) (k : ∀ M', MJ M' A E → Fr VMt M M' → Q (some (0, tlsA E (fun i => B s (2 + i)) (B s 1).toNat (M 69 3) A o 0)) M') : Wp l g d 0 0 n m_X8_tells 0 [] [(2, 69), (0, (s : Int)), (0, o), (0, 0), (9, 0), (9, 0), (9, 0), (9, 0), (9, 0), (9, 0), (9, 0)] M Q := by
  obtain ⟨hR, hA, hW, hr, hX⟩ := id hI
  have w2 := hW.1
  have w5 := hW.2.1
  have w3 := hW.2.2.1
  have w32 := hW.2.2.2.1
  have hX1 := hX.1
  have hX2 := hX.2.1
  have h87 : M 87 s = 1 := (hB s hs).1.trans (if_neg hT)
  have h8 := (hB s hs).2 hT
  refine wp_iload_n dX8_tells_0 rfl rfl ?_
  refine wp_callS0 (d' := d - 1) cs_RX8_439 [(0, (s : Int))] [] rfl rfl (Nat.le_of_ble_eq_true rfl) dX8_tells_1 rfl (Nat.le_of_ble_eq_true rfl) (by omega) (loc1 := [(0, (s : Int))]) rfl ?_
  refine sp_isSh (by omega) (s : Int) (fun _ => ?_) (fun h => absurd h (by omega))
  refine wp_if_eq (tgt := 27) dX8_tells_4 (by decide) (fun h => absurd h (by decide)) (fun _ => ?_)
  refine wp_aload_n dX8_tells_7 rfl rfl ?_
  refine wp_iload_n dX8_tells_8 rfl rfl ?_
  refine wp_callV0 (d' := d - 1) cv_RX8_97 69 rfl [(0, o)] [] rfl rfl (Or.inl ⟨_, _, rfl, by decide, rfl, by omega, by omega⟩) (by omega) (Nat.le_of_ble_eq_true rfl) dX8_tells_9 rfl (Nat.le_of_ble_eq_true rfl) (by omega) (loc1 := [(2, 69), (0, o)]) rfl ?_
  refine sp_isOne hn hI (by omega) o (fun _ => ?_) (fun h => absurd ho h)
  refine wp_if_eq (tgt := 27) dX8_tells_12 (by decide) (fun h => absurd h (by decide)) (fun _ => ?_)
  refine wp_iload_n dX8_tells_15 rfl rfl ?_
  refine wp_i2l dX8_tells_16 ?_
  refine wp_lconst (v := 0) dX8_tells_17 (by decide) (by decide) ?_
  refine wp_ldc2 (x := 5) dX8_tells_18 kl_RX8_119 (by decide) (wr_l (by omega)) ?_
  refine wp_callS0 (d' := d - 1) cs_RX8_91 [(1, 0), (1, 0), (1, 5)] [] rfl rfl (Nat.le_of_ble_eq_true rfl) dX8_tells_21 rfl (Nat.le_of_ble_eq_true rfl) (by omega) (loc1 := [(1, 0), (9, 0), (1, 0), (9, 0), (1, 5), (9, 0)]) rfl ?_
  refine sp_in 0 0 5 (fun _ => ?_) (fun h => absurd (by decide) h)
  refine wp_if_ne (tgt := 30) dX8_tells_24 (by decide) (fun _ => ?_) (fun h => absurd h (by decide))
  refine wp_aload_n dX8_tells_30 rfl rfl ?_
  refine wp_get 69 rfl fl_RX8_69 rfl ⟨by omega, by omega⟩ dX8_tells_31 rfl (v := 87) (sr_69_49 (M := M) hR) ?_
  refine wp_iload_n dX8_tells_34 rfl rfl ?_
  refine wp_zald 87 rfl rfl ⟨by omega, by omega⟩ ⟨by omega, by omega⟩ dX8_tells_35 (v := 1) (h87) ?_
  refine wp_if_ne (tgt := 42) dX8_tells_36 (by decide) (fun _ => ?_) (fun h => absurd h (by decide))
  refine wp_aload_n dX8_tells_42 rfl rfl ?_
  refine wp_get 69 rfl fl_RX8_75 rfl ⟨by omega, by omega⟩ dX8_tells_43 rfl (v := 89) (sr_69_51 (M := M) hR) ?_
  refine wp_iload_n dX8_tells_46 rfl rfl ?_
  refine wp_iald 89 rfl rfl ⟨by omega, by omega⟩ ⟨by omega, by omega⟩ dX8_tells_47 (v := (B s 1)) (h8.2.1) ?_
  refine wp_bipush dX8_tells_48 (by decide) (by decide) ?_
  refine wp_icmp_le (tgt := 56) dX8_tells_50 (by decide) (fun _ => ?_) (fun h => absurd h (by omega))
  refine wp_iload_n dX8_tells_56 rfl rfl ?_
  refine wp_if_ne (tgt := 66) dX8_tells_57 (by decide) (fun h => absurd h (by decide)) (fun _ => ?_)
  refine wp_aload_n dX8_tells_60 rfl rfl ?_
  refine wp_iload_n dX8_tells_61 rfl rfl ?_
  refine wp_callV0 (d' := d - 1) cv_RX8_442 69 rfl [(0, (s : Int))] [] rfl rfl (Or.inl ⟨_, _, rfl, by decide, rfl, by omega, by omega⟩) (by omega) (Nat.le_of_ble_eq_true rfl) dX8_tells_62 rfl (Nat.le_of_ble_eq_true rfl) (by omega) (loc1 := [(2, 69), (0, (s : Int)), (9, 0), (9, 0)]) rfl ?_
  refine sp_fom hn hI (by omega) hB hV hs hT (fun M1 I1 F1 => ?_)
  refine wp_iret rfl dX8_tells_65 ?_
  exact k M1 I1 F1
set_option maxRecDepth 20000 in
set_option maxHeartbeats 4000000 in
theorem sp_tlsm_1 {l : Launch} {g : Gw} {d n : Nat} {M : Mm} {Q : Option Wd → Mm → Prop} (hn : 90 ≤ n) {A : Ls} {E : Ev} (hI : MJ M A E) (hd : 78 ≤ d) {B : Mm} (hB : Rms M B) (hV : Ws B) {s : Nat} (hs : s < 4) (hT : B s 0 ≠ -1) (h30 : B s 1 ≤ 30) (o : Int) (ho : 0 ≤ o ∧ o < A.1 2) (k : ∀ M', MJ M' A E → Fr VMt M M' → Q (some (0, tlsA E (fun i => B s (2 + i)) (B s 1).toNat (M 69 3) A o 1)) M') : Wp l g d 0 0 n m_X8_tells 0 [] [(2, 69), (0, (s : Int)), (0, o), (0, 1), (9, 0), (9, 0), (9, 0), (9, 0), (9, 0), (9, 0), (9, 0)] M Q := by
  obtain ⟨hR, hA, hW, hr, hX⟩ := id hI
  have w2 := hW.1
  have w5 := hW.2.1
  have w3 := hW.2.2.1
  have w32 := hW.2.2.2.1
  have hX1 := hX.1
  have hX2 := hX.2.1
  have h87 : M 87 s = 1 := (hB s hs).1.trans (if_neg hT)
  have h8 := (hB s hs).2 hT
  refine wp_iload_n dX8_tells_0 rfl rfl ?_
  refine wp_callS0 (d' := d - 1) cs_RX8_439 [(0, (s : Int))] [] rfl rfl (Nat.le_of_ble_eq_true rfl) dX8_tells_1 rfl (Nat.le_of_ble_eq_true rfl) (by omega) (loc1 := [(0, (s : Int))]) rfl ?_
  refine sp_isSh (by omega) (s : Int) (fun _ => ?_) (fun h => absurd h (by omega))
  refine wp_if_eq (tgt := 27) dX8_tells_4 (by decide) (fun h => absurd h (by decide)) (fun _ => ?_)
  refine wp_aload_n dX8_tells_7 rfl rfl ?_
  refine wp_iload_n dX8_tells_8 rfl rfl ?_
  refine wp_callV0 (d' := d - 1) cv_RX8_97 69 rfl [(0, o)] [] rfl rfl (Or.inl ⟨_, _, rfl, by decide, rfl, by omega, by omega⟩) (by omega) (Nat.le_of_ble_eq_true rfl) dX8_tells_9 rfl (Nat.le_of_ble_eq_true rfl) (by omega) (loc1 := [(2, 69), (0, o)]) rfl ?_
  refine sp_isOne hn hI (by omega) o (fun _ => ?_) (fun h => absurd ho h)
  refine wp_if_eq (tgt := 27) dX8_tells_12 (by decide) (fun h => absurd h (by decide)) (fun _ => ?_)
  refine wp_iload_n dX8_tells_15 rfl rfl ?_
  refine wp_i2l dX8_tells_16 ?_
  refine wp_lconst (v := 0) dX8_tells_17 (by decide) (by decide) ?_
  refine wp_ldc2 (x := 5) dX8_tells_18 kl_RX8_119 (by decide) (wr_l (by omega)) ?_
  refine wp_callS0 (d' := d - 1) cs_RX8_91 [(1, 1), (1, 0), (1, 5)] [] rfl rfl (Nat.le_of_ble_eq_true rfl) dX8_tells_21 rfl (Nat.le_of_ble_eq_true rfl) (by omega) (loc1 := [(1, 1), (9, 0), (1, 0), (9, 0), (1, 5), (9, 0)]) rfl ?_
  refine sp_in 1 0 5 (fun _ => ?_) (fun h => absurd (by decide) h)
  refine wp_if_ne (tgt := 30) dX8_tells_24 (by decide) (fun _ => ?_) (fun h => absurd h (by decide))
  refine wp_aload_n dX8_tells_30 rfl rfl ?_
  refine wp_get 69 rfl fl_RX8_69 rfl ⟨by omega, by omega⟩ dX8_tells_31 rfl (v := 87) (sr_69_49 (M := M) hR) ?_
  refine wp_iload_n dX8_tells_34 rfl rfl ?_
  refine wp_zald 87 rfl rfl ⟨by omega, by omega⟩ ⟨by omega, by omega⟩ dX8_tells_35 (v := 1) (h87) ?_
  refine wp_if_ne (tgt := 42) dX8_tells_36 (by decide) (fun _ => ?_) (fun h => absurd h (by decide))
  refine wp_aload_n dX8_tells_42 rfl rfl ?_
  refine wp_get 69 rfl fl_RX8_75 rfl ⟨by omega, by omega⟩ dX8_tells_43 rfl (v := 89) (sr_69_51 (M := M) hR) ?_
  refine wp_iload_n dX8_tells_46 rfl rfl ?_
  refine wp_iald 89 rfl rfl ⟨by omega, by omega⟩ ⟨by omega, by omega⟩ dX8_tells_47 (v := (B s 1)) (h8.2.1) ?_
  refine wp_bipush dX8_tells_48 (by decide) (by decide) ?_
  refine wp_icmp_le (tgt := 56) dX8_tells_50 (by decide) (fun _ => ?_) (fun h => absurd h (by omega))
  refine wp_iload_n dX8_tells_56 rfl rfl ?_
  refine wp_if_ne (tgt := 66) dX8_tells_57 (by decide) (fun _ => ?_) (fun h => absurd h (by decide))
  refine wp_iload_n dX8_tells_66 rfl rfl ?_
  refine wp_iconst dX8_tells_67 (by decide) ?_
  refine wp_icmp_ne (tgt := 75) dX8_tells_68 (by decide) (fun h => absurd h (by decide)) (fun _ => ?_)
  refine wp_iconst dX8_tells_71 (by decide) ?_
  refine wp_goto (tgt := 95) dX8_tells_72 (by decide) ?_
  refine wp_istore (loc' := [(2, 69), (0, (s : Int)), (0, o), (0, 1), (0, 5), (9, 0), (9, 0), (9, 0), (9, 0), (9, 0), (9, 0)]) dX8_tells_95 (Nat.le_of_ble_eq_true rfl) rfl ?_
  refine wp_iload dX8_tells_97 rfl ?_
  refine wp_bipush dX8_tells_99 (by decide) (by decide) ?_
  refine wp_icmp_ne (tgt := 111) dX8_tells_101 (by decide) (fun _ => ?_) (fun h => absurd h (by decide))
  refine wp_aload_n dX8_tells_111 rfl rfl ?_
  refine wp_iload_n dX8_tells_112 rfl rfl ?_
  refine wp_iload dX8_tells_113 rfl ?_
  refine wp_callV0 (d' := d - 1) cv_RX8_105 69 rfl [(0, o), (0, 5)] [] rfl rfl (Or.inl ⟨_, _, rfl, by decide, rfl, by omega, by omega⟩) (by omega) (Nat.le_of_ble_eq_true rfl) dX8_tells_115 rfl (Nat.le_of_ble_eq_true rfl) (by omega) (loc1 := [(2, 69), (0, o), (0, 5)]) rfl ?_
  refine sp_tolm_5 hn hI (by omega) o (fun M1 F1 => ?_)
  rw [show toldA E A o 5 = A.2 0 o.toNat from (if_neg (by decide)).trans ((if_neg (by omega)).trans rfl)]
  have I1 := hI.frs F1
  have A1 := I1.2.1
  refine wp_istore (loc' := [(2, 69), (0, (s : Int)), (0, o), (0, 1), (0, 5), (0, (A.2 0 o.toNat)), (9, 0), (9, 0), (9, 0), (9, 0), (9, 0)]) dX8_tells_118 (Nat.le_of_ble_eq_true rfl) rfl ?_
  refine wp_iload dX8_tells_120 rfl ?_
  refine wp_bipush dX8_tells_122 (by decide) (by decide) ?_
  refine wp_icmp_ne (tgt := 136) dX8_tells_124 (by decide) (fun _ => ?_) (fun h => absurd h (by decide))
  refine wp_iload dX8_tells_136 rfl ?_
  refine wp_iconst dX8_tells_138 (by decide) ?_
  refine wp_icmp_ne (tgt := 146) dX8_tells_139 (by decide) (fun h => absurd h (by decide)) (fun _ => ?_)
  refine wp_iconst dX8_tells_142 (by decide) ?_
  refine wp_goto (tgt := 151) dX8_tells_143 (by decide) ?_
  refine wp_istore (loc' := [(2, 69), (0, (s : Int)), (0, o), (0, 1), (0, 5), (0, (A.2 0 o.toNat)), (0, 5), (9, 0), (9, 0), (9, 0), (9, 0)]) dX8_tells_151 (Nat.le_of_ble_eq_true rfl) rfl ?_
  refine wp_iconst dX8_tells_153 (by decide) ?_
  refine wp_istore (loc' := [(2, 69), (0, (s : Int)), (0, o), (0, 1), (0, 5), (0, (A.2 0 o.toNat)), (0, 5), (0, 0), (9, 0), (9, 0), (9, 0)]) dX8_tells_154 (Nat.le_of_ble_eq_true rfl) rfl ?_
  refine wp_iconst dX8_tells_156 (by decide) ?_
  refine wp_istore (loc' := [(2, 69), (0, (s : Int)), (0, o), (0, 1), (0, 5), (0, (A.2 0 o.toNat)), (0, 5), (0, 0), (0, 0), (9, 0), (9, 0)]) dX8_tells_157 (Nat.le_of_ble_eq_true rfl) rfl ?_
  refine wp_iconst dX8_tells_159 (by decide) ?_
  refine wp_istore (loc' := [(2, 69), (0, (s : Int)), (0, o), (0, 1), (0, 5), (0, (A.2 0 o.toNat)), (0, 5), (0, 0), (0, 0), (0, (-1)), (9, 0)]) dX8_tells_160 (Nat.le_of_ble_eq_true rfl) rfl ?_
  refine wp_iload dX8_tells_162 rfl ?_
  refine wp_istore (loc' := [(2, 69), (0, (s : Int)), (0, o), (0, 1), (0, 5), (0, (A.2 0 o.toNat)), (0, 5), (0, 0), (0, 0), (0, (-1)), (0, 5)]) dX8_tells_164 (Nat.le_of_ble_eq_true rfl) rfl ?_
  obtain ⟨N, hN⟩ : ∃ N, (B s 1).toNat = N := ⟨_, rfl⟩
  have I0 : MJ M1 (lyA A 1 o (A.2 0 o.toNat)) E := by
    rw [show lyA A 1 o (A.2 0 o.toNat) = A from setA_was]
    exact I1
  refine lp_tlm_1 hn (by omega) hW hV (H := 6) (x := M 69 3) hs hT hN ho (by decide) 6 M1 (A.2 0 o.toNat) 0 0 (-1) _ 0 (by omega) (by omega) (F1 69 3 (by unfold VMs; omega)) I0 (hB.fr (F1.mono VMs.l) VMl.nh) rfl rfl rfl (fun M2 y u st ct ls I2 F2 hst hct hls => ?_)
  have R2 := I2.1
  refine wp_aload_n dX8_tells_222 rfl rfl ?_
  refine wp_iload dX8_tells_223 rfl ?_
  refine wp_iload_n dX8_tells_225 rfl rfl ?_
  refine wp_iload dX8_tells_226 rfl ?_
  refine wp_callV0 (d' := d - 1) cv_RX8_109 69 rfl [(0, 5), (0, o), (0, (A.2 0 o.toNat))] [] rfl rfl (Or.inl ⟨_, _, rfl, by decide, rfl, by omega, by omega⟩) (by omega) (Nat.le_of_ble_eq_true rfl) dX8_tells_228 rfl (Nat.le_of_ble_eq_true rfl) (by omega) (loc1 := [(2, 69), (0, 5), (0, o), (0, (A.2 0 o.toNat))]) rfl ?_
  refine wp_iload_n dX8_lays_0 rfl rfl ?_
  refine wp_if_ne (tgt := 12) dX8_lays_1 (by decide) (fun _ => ?_) (fun h => absurd h (by decide))
  refine wp_iload_n dX8_lays_12 rfl rfl ?_
  refine wp_iconst dX8_lays_13 (by decide) ?_
  refine wp_icmp_ge (tgt := 33) dX8_lays_14 (by decide) (fun _ => ?_) (fun h => absurd h (by decide))
  refine wp_iload_n dX8_lays_33 rfl rfl ?_
  refine wp_iconst dX8_lays_34 (by decide) ?_
  refine wp_icmp_ne (tgt := 48) dX8_lays_35 (by decide) (fun h => absurd h (by decide)) (fun _ => ?_)
  refine wp_aload_n dX8_lays_38 rfl rfl ?_
  refine wp_get 69 rfl fl_RX8_23 rfl ⟨by omega, by omega⟩ dX8_lays_39 rfl (v := 73) (sr_69_8 (M := M2) R2) ?_
  refine wp_iload_n dX8_lays_42 rfl rfl ?_
  refine wp_iload_n dX8_lays_43 rfl rfl ?_
  refine wp_iast 73 rfl rfl ⟨by omega, by omega⟩ ⟨by omega, by omega⟩ dX8_lays_44 (jn := (o).toNat) rfl ?_
  refine wp_goto (tgt := 53) dX8_lays_45 (by decide) ?_
  refine wp_vret rfl dX8_lays_53 ?_
  refine wp_iload_n dX8_tells_231 rfl rfl ?_
  refine wp_iconst dX8_tells_232 (by decide) ?_
  refine wp_icmp_ne (tgt := 241) dX8_tells_233 (by decide) (fun _ => ?_) (fun h => absurd h (by decide))
  refine wp_iload_n dX8_tells_241 rfl rfl ?_
  refine wp_iconst dX8_tells_242 (by decide) ?_
  refine wp_icmp_ne (tgt := 251) dX8_tells_243 (by decide) (fun _ => ?_) (fun h => absurd h (by decide))
  refine wp_iload dX8_tells_251 rfl ?_
  refine wp_iret rfl dX8_tells_253 ?_
  have g3 : Fr VMl M2 (mu M2 73 (o).toNat (A.2 0 o.toNat)) := Fr.rf.put (by unfold VMl VMs; omega)
  have a3 : Rm (mu M2 73 (o).toNat (A.2 0 o.toNat)) A := by
    have h : Rm (mu M2 73 (o).toNat (A.2 0 o.toNat)) (lyA (lyA A 1 o y) 1 o (A.2 0 o.toNat)) := I2.2.1.setK
    have e := lyA_ly (A := A) (w := 1) (o := o) (y := y) (v := (A.2 0 o.toNat))
    have e2 : lyA A 1 o (A.2 0 o.toNat) = A := setA_was
    have e3 := e.trans e2
    rw [e3] at h
    exact h
  have FF : Fr VMt M (mu M2 73 (o).toNat (A.2 0 o.toNat)) := ((F1.mono VMs.l).mono VMl.t).tr (F2.tr (g3.mono VMl.t))
  have I3 : MJ (mu M2 73 (o).toNat (A.2 0 o.toNat)) A E := I2.new g3 a3 hW (by rw [(F2 69 3 (by unfold VMt VMl VMs VMw; omega)), (F1 69 3 (by unfold VMs; omega))]; exact hr)
  have q0 := k _ I3 FF
  rw [hN] at q0
  rw [tls_1, ← tpS_all, ← hst] at q0
  exact q0
set_option maxRecDepth 20000 in
set_option maxHeartbeats 4000000 in
theorem sp_tlsm_2 {l : Launch} {g : Gw} {d n : Nat} {M : Mm} {Q : Option Wd → Mm → Prop} (hn : 90 ≤ n) {A : Ls} {E : Ev} (hI : MJ M A E) (hd : 78 ≤ d) {B : Mm} (hB : Rms M B) (hV : Ws B) {s : Nat} (hs : s < 4) (hT : B s 0 ≠ -1) (h30 : B s 1 ≤ 30) (o : Int) (ho : 0 ≤ o ∧ o < A.1 2) (k : ∀ M', MJ M' A E → Fr VMt M M' → Q (some (0, tlsA E (fun i => B s (2 + i)) (B s 1).toNat (M 69 3) A o 2)) M') : Wp l g d 0 0 n m_X8_tells 0 [] [(2, 69), (0, (s : Int)), (0, o), (0, 2), (9, 0), (9, 0), (9, 0), (9, 0), (9, 0), (9, 0), (9, 0)] M Q := by
  obtain ⟨hR, hA, hW, hr, hX⟩ := id hI
  have w2 := hW.1
  have w5 := hW.2.1
  have w3 := hW.2.2.1
  have w32 := hW.2.2.2.1
  have hX1 := hX.1
  have hX2 := hX.2.1
  have h87 : M 87 s = 1 := (hB s hs).1.trans (if_neg hT)
  have h8 := (hB s hs).2 hT
  refine wp_iload_n dX8_tells_0 rfl rfl ?_
  refine wp_callS0 (d' := d - 1) cs_RX8_439 [(0, (s : Int))] [] rfl rfl (Nat.le_of_ble_eq_true rfl) dX8_tells_1 rfl (Nat.le_of_ble_eq_true rfl) (by omega) (loc1 := [(0, (s : Int))]) rfl ?_
  refine sp_isSh (by omega) (s : Int) (fun _ => ?_) (fun h => absurd h (by omega))
  refine wp_if_eq (tgt := 27) dX8_tells_4 (by decide) (fun h => absurd h (by decide)) (fun _ => ?_)
  refine wp_aload_n dX8_tells_7 rfl rfl ?_
  refine wp_iload_n dX8_tells_8 rfl rfl ?_
  refine wp_callV0 (d' := d - 1) cv_RX8_97 69 rfl [(0, o)] [] rfl rfl (Or.inl ⟨_, _, rfl, by decide, rfl, by omega, by omega⟩) (by omega) (Nat.le_of_ble_eq_true rfl) dX8_tells_9 rfl (Nat.le_of_ble_eq_true rfl) (by omega) (loc1 := [(2, 69), (0, o)]) rfl ?_
  refine sp_isOne hn hI (by omega) o (fun _ => ?_) (fun h => absurd ho h)
  refine wp_if_eq (tgt := 27) dX8_tells_12 (by decide) (fun h => absurd h (by decide)) (fun _ => ?_)
  refine wp_iload_n dX8_tells_15 rfl rfl ?_
  refine wp_i2l dX8_tells_16 ?_
  refine wp_lconst (v := 0) dX8_tells_17 (by decide) (by decide) ?_
  refine wp_ldc2 (x := 5) dX8_tells_18 kl_RX8_119 (by decide) (wr_l (by omega)) ?_
  refine wp_callS0 (d' := d - 1) cs_RX8_91 [(1, 2), (1, 0), (1, 5)] [] rfl rfl (Nat.le_of_ble_eq_true rfl) dX8_tells_21 rfl (Nat.le_of_ble_eq_true rfl) (by omega) (loc1 := [(1, 2), (9, 0), (1, 0), (9, 0), (1, 5), (9, 0)]) rfl ?_
  refine sp_in 2 0 5 (fun _ => ?_) (fun h => absurd (by decide) h)
  refine wp_if_ne (tgt := 30) dX8_tells_24 (by decide) (fun _ => ?_) (fun h => absurd h (by decide))
  refine wp_aload_n dX8_tells_30 rfl rfl ?_
  refine wp_get 69 rfl fl_RX8_69 rfl ⟨by omega, by omega⟩ dX8_tells_31 rfl (v := 87) (sr_69_49 (M := M) hR) ?_
  refine wp_iload_n dX8_tells_34 rfl rfl ?_
  refine wp_zald 87 rfl rfl ⟨by omega, by omega⟩ ⟨by omega, by omega⟩ dX8_tells_35 (v := 1) (h87) ?_
  refine wp_if_ne (tgt := 42) dX8_tells_36 (by decide) (fun _ => ?_) (fun h => absurd h (by decide))
  refine wp_aload_n dX8_tells_42 rfl rfl ?_
  refine wp_get 69 rfl fl_RX8_75 rfl ⟨by omega, by omega⟩ dX8_tells_43 rfl (v := 89) (sr_69_51 (M := M) hR) ?_
  refine wp_iload_n dX8_tells_46 rfl rfl ?_
  refine wp_iald 89 rfl rfl ⟨by omega, by omega⟩ ⟨by omega, by omega⟩ dX8_tells_47 (v := (B s 1)) (h8.2.1) ?_
  refine wp_bipush dX8_tells_48 (by decide) (by decide) ?_
  refine wp_icmp_le (tgt := 56) dX8_tells_50 (by decide) (fun _ => ?_) (fun h => absurd h (by omega))
  refine wp_iload_n dX8_tells_56 rfl rfl ?_
  refine wp_if_ne (tgt := 66) dX8_tells_57 (by decide) (fun _ => ?_) (fun h => absurd h (by decide))
  refine wp_iload_n dX8_tells_66 rfl rfl ?_
  refine wp_iconst dX8_tells_67 (by decide) ?_
  refine wp_icmp_ne (tgt := 75) dX8_tells_68 (by decide) (fun _ => ?_) (fun h => absurd h (by decide))
  refine wp_iload_n dX8_tells_75 rfl rfl ?_
  refine wp_iconst dX8_tells_76 (by decide) ?_
  refine wp_icmp_ne (tgt := 84) dX8_tells_77 (by decide) (fun h => absurd h (by decide)) (fun _ => ?_)
  refine wp_iconst dX8_tells_80 (by decide) ?_
  refine wp_goto (tgt := 95) dX8_tells_81 (by decide) ?_
  refine wp_istore (loc' := [(2, 69), (0, (s : Int)), (0, o), (0, 2), (0, 1), (9, 0), (9, 0), (9, 0), (9, 0), (9, 0), (9, 0)]) dX8_tells_95 (Nat.le_of_ble_eq_true rfl) rfl ?_
  refine wp_iload dX8_tells_97 rfl ?_
  refine wp_bipush dX8_tells_99 (by decide) (by decide) ?_
  refine wp_icmp_ne (tgt := 111) dX8_tells_101 (by decide) (fun _ => ?_) (fun h => absurd h (by decide))
  refine wp_aload_n dX8_tells_111 rfl rfl ?_
  refine wp_iload_n dX8_tells_112 rfl rfl ?_
  refine wp_iload dX8_tells_113 rfl ?_
  refine wp_callV0 (d' := d - 1) cv_RX8_105 69 rfl [(0, o), (0, 1)] [] rfl rfl (Or.inl ⟨_, _, rfl, by decide, rfl, by omega, by omega⟩) (by omega) (Nat.le_of_ble_eq_true rfl) dX8_tells_115 rfl (Nat.le_of_ble_eq_true rfl) (by omega) (loc1 := [(2, 69), (0, o), (0, 1)]) rfl ?_
  refine sp_tolm_1 hn hI (by omega) o (fun M1 F1 => ?_)
  rw [show toldA E A o 1 = A.2 1 o.toNat from (if_neg (by decide)).trans ((if_neg (by omega)).trans rfl)]
  have I1 := hI.frs F1
  have A1 := I1.2.1
  refine wp_istore (loc' := [(2, 69), (0, (s : Int)), (0, o), (0, 2), (0, 1), (0, (A.2 1 o.toNat)), (9, 0), (9, 0), (9, 0), (9, 0), (9, 0)]) dX8_tells_118 (Nat.le_of_ble_eq_true rfl) rfl ?_
  refine wp_iload dX8_tells_120 rfl ?_
  refine wp_bipush dX8_tells_122 (by decide) (by decide) ?_
  refine wp_icmp_ne (tgt := 136) dX8_tells_124 (by decide) (fun _ => ?_) (fun h => absurd h (by decide))
  refine wp_iload dX8_tells_136 rfl ?_
  refine wp_iconst dX8_tells_138 (by decide) ?_
  refine wp_icmp_ne (tgt := 146) dX8_tells_139 (by decide) (fun _ => ?_) (fun h => absurd h (by decide))
  refine wp_iload dX8_tells_146 rfl ?_
  refine wp_callS0 (d' := d - 1) cs_RX8_101 [(0, 1)] [] rfl rfl (Nat.le_of_ble_eq_true rfl) dX8_tells_148 rfl (Nat.le_of_ble_eq_true rfl) (by omega) (loc1 := [(0, 1)]) rfl ?_
  refine wp_iload_n dX8_mostOf_0 rfl rfl ?_
  refine wp_if_ne (tgt := 10) dX8_mostOf_1 (by decide) (fun _ => ?_) (fun h => absurd h (by decide))
  refine wp_iload_n dX8_mostOf_10 rfl rfl ?_
  refine wp_iconst dX8_mostOf_11 (by decide) ?_
  refine wp_icmp_ne (tgt := 20) dX8_mostOf_12 (by decide) (fun h => absurd h (by decide)) (fun _ => ?_)
  refine wp_bipush dX8_mostOf_15 (by decide) (by decide) ?_
  refine wp_goto (tgt := 42) dX8_mostOf_17 (by decide) ?_
  refine wp_iret rfl dX8_mostOf_42 ?_
  refine wp_istore (loc' := [(2, 69), (0, (s : Int)), (0, o), (0, 2), (0, 1), (0, (A.2 1 o.toNat)), (0, 9), (9, 0), (9, 0), (9, 0), (9, 0)]) dX8_tells_151 (Nat.le_of_ble_eq_true rfl) rfl ?_
  refine wp_iconst dX8_tells_153 (by decide) ?_
  refine wp_istore (loc' := [(2, 69), (0, (s : Int)), (0, o), (0, 2), (0, 1), (0, (A.2 1 o.toNat)), (0, 9), (0, 0), (9, 0), (9, 0), (9, 0)]) dX8_tells_154 (Nat.le_of_ble_eq_true rfl) rfl ?_
  refine wp_iconst dX8_tells_156 (by decide) ?_
  refine wp_istore (loc' := [(2, 69), (0, (s : Int)), (0, o), (0, 2), (0, 1), (0, (A.2 1 o.toNat)), (0, 9), (0, 0), (0, 0), (9, 0), (9, 0)]) dX8_tells_157 (Nat.le_of_ble_eq_true rfl) rfl ?_
  refine wp_iconst dX8_tells_159 (by decide) ?_
  refine wp_istore (loc' := [(2, 69), (0, (s : Int)), (0, o), (0, 2), (0, 1), (0, (A.2 1 o.toNat)), (0, 9), (0, 0), (0, 0), (0, (-1)), (9, 0)]) dX8_tells_160 (Nat.le_of_ble_eq_true rfl) rfl ?_
  refine wp_iload dX8_tells_162 rfl ?_
  refine wp_istore (loc' := [(2, 69), (0, (s : Int)), (0, o), (0, 2), (0, 1), (0, (A.2 1 o.toNat)), (0, 9), (0, 0), (0, 0), (0, (-1)), (0, 9)]) dX8_tells_164 (Nat.le_of_ble_eq_true rfl) rfl ?_
  obtain ⟨N, hN⟩ : ∃ N, (B s 1).toNat = N := ⟨_, rfl⟩
  have I0 : MJ M1 (lyA A 2 o (A.2 1 o.toNat)) E := by
    rw [show lyA A 2 o (A.2 1 o.toNat) = A from setA_was]
    exact I1
  refine lp_tlm_2 hn (by omega) hW hV (H := 10) (x := M 69 3) hs hT hN ho (by decide) 10 M1 (A.2 1 o.toNat) 0 0 (-1) _ 0 (by omega) (by omega) (F1 69 3 (by unfold VMs; omega)) I0 (hB.fr (F1.mono VMs.l) VMl.nh) rfl rfl rfl (fun M2 y u st ct ls I2 F2 hst hct hls => ?_)
  have R2 := I2.1
  refine wp_aload_n dX8_tells_222 rfl rfl ?_
  refine wp_iload dX8_tells_223 rfl ?_
  refine wp_iload_n dX8_tells_225 rfl rfl ?_
  refine wp_iload dX8_tells_226 rfl ?_
  refine wp_callV0 (d' := d - 1) cv_RX8_109 69 rfl [(0, 1), (0, o), (0, (A.2 1 o.toNat))] [] rfl rfl (Or.inl ⟨_, _, rfl, by decide, rfl, by omega, by omega⟩) (by omega) (Nat.le_of_ble_eq_true rfl) dX8_tells_228 rfl (Nat.le_of_ble_eq_true rfl) (by omega) (loc1 := [(2, 69), (0, 1), (0, o), (0, (A.2 1 o.toNat))]) rfl ?_
  refine wp_iload_n dX8_lays_0 rfl rfl ?_
  refine wp_if_ne (tgt := 12) dX8_lays_1 (by decide) (fun _ => ?_) (fun h => absurd h (by decide))
  refine wp_iload_n dX8_lays_12 rfl rfl ?_
  refine wp_iconst dX8_lays_13 (by decide) ?_
  refine wp_icmp_ge (tgt := 33) dX8_lays_14 (by decide) (fun h => absurd h (by decide)) (fun _ => ?_)
  refine wp_aload_n dX8_lays_17 rfl rfl ?_
  refine wp_get 69 rfl fl_RX8_26 rfl ⟨by omega, by omega⟩ dX8_lays_18 rfl (v := 74) (sr_69_9 (M := M2) R2) ?_
  refine wp_iconst dX8_lays_21 (by decide) ?_
  refine wp_iload_n dX8_lays_22 rfl rfl ?_
  refine wp_imul dX8_lays_23 (by omega) ?_
  refine wp_iload_n dX8_lays_24 rfl rfl ?_
  refine wp_iadd dX8_lays_25 (by omega) ?_
  refine wp_iconst dX8_lays_26 (by decide) ?_
  refine wp_isub dX8_lays_27 (by omega) ?_
  refine wp_iload_n dX8_lays_28 rfl rfl ?_
  refine wp_iast 74 rfl rfl ⟨by omega, by omega⟩ ⟨by omega, by omega⟩ dX8_lays_29 (jn := (4 * o.toNat + 0)) (by omega) ?_
  refine wp_goto (tgt := 53) dX8_lays_30 (by decide) ?_
  refine wp_vret rfl dX8_lays_53 ?_
  refine wp_iload_n dX8_tells_231 rfl rfl ?_
  refine wp_iconst dX8_tells_232 (by decide) ?_
  refine wp_icmp_ne (tgt := 241) dX8_tells_233 (by decide) (fun _ => ?_) (fun h => absurd h (by decide))
  refine wp_iload_n dX8_tells_241 rfl rfl ?_
  refine wp_iconst dX8_tells_242 (by decide) ?_
  refine wp_icmp_ne (tgt := 251) dX8_tells_243 (by decide) (fun _ => ?_) (fun h => absurd h (by decide))
  refine wp_iload dX8_tells_251 rfl ?_
  refine wp_iret rfl dX8_tells_253 ?_
  have g3 : Fr VMl M2 (mu M2 74 (4 * o.toNat + 0) (A.2 1 o.toNat)) := Fr.rf.put (by unfold VMl VMs; omega)
  have a3 : Rm (mu M2 74 (4 * o.toNat + 0) (A.2 1 o.toNat)) A := by
    have h : Rm (mu M2 74 (4 * o.toNat + 0) (A.2 1 o.toNat)) (lyA (lyA A 2 o y) 2 o (A.2 1 o.toNat)) := I2.2.1.setR (r := 0) (i := o.toNat) (by omega)
    have e := lyA_ly (A := A) (w := 2) (o := o) (y := y) (v := (A.2 1 o.toNat))
    have e2 : lyA A 2 o (A.2 1 o.toNat) = A := setA_was
    have e3 := e.trans e2
    rw [e3] at h
    exact h
  have FF : Fr VMt M (mu M2 74 (4 * o.toNat + 0) (A.2 1 o.toNat)) := ((F1.mono VMs.l).mono VMl.t).tr (F2.tr (g3.mono VMl.t))
  have I3 : MJ (mu M2 74 (4 * o.toNat + 0) (A.2 1 o.toNat)) A E := I2.new g3 a3 hW (by rw [(F2 69 3 (by unfold VMt VMl VMs VMw; omega)), (F1 69 3 (by unfold VMs; omega))]; exact hr)
  have q0 := k _ I3 FF
  rw [hN] at q0
  rw [tls_2, ← tpS_all, ← hst] at q0
  exact q0
set_option maxRecDepth 20000 in
set_option maxHeartbeats 4000000 in
theorem sp_tlsm_3 {l : Launch} {g : Gw} {d n : Nat} {M : Mm} {Q : Option Wd → Mm → Prop} (hn : 90 ≤ n) {A : Ls} {E : Ev} (hI : MJ M A E) (hd : 78 ≤ d) {B : Mm} (hB : Rms M B) (hV : Ws B) {s : Nat} (hs : s < 4) (hT : B s 0 ≠ -1) (h30 : B s 1 ≤ 30) (o : Int) (ho : 0 ≤ o ∧ o < A.1 2) (k : ∀ M', MJ M' A E → Fr VMt M M' → Q (some (0, tlsA E (fun i => B s (2 + i)) (B s 1).toNat (M 69 3) A o 3)) M') : Wp l g d 0 0 n m_X8_tells 0 [] [(2, 69), (0, (s : Int)), (0, o), (0, 3), (9, 0), (9, 0), (9, 0), (9, 0), (9, 0), (9, 0), (9, 0)] M Q := by
  obtain ⟨hR, hA, hW, hr, hX⟩ := id hI
  have w2 := hW.1
  have w5 := hW.2.1
  have w3 := hW.2.2.1
  have w32 := hW.2.2.2.1
  have hX1 := hX.1
  have hX2 := hX.2.1
  have h87 : M 87 s = 1 := (hB s hs).1.trans (if_neg hT)
  have h8 := (hB s hs).2 hT
  refine wp_iload_n dX8_tells_0 rfl rfl ?_
  refine wp_callS0 (d' := d - 1) cs_RX8_439 [(0, (s : Int))] [] rfl rfl (Nat.le_of_ble_eq_true rfl) dX8_tells_1 rfl (Nat.le_of_ble_eq_true rfl) (by omega) (loc1 := [(0, (s : Int))]) rfl ?_
  refine sp_isSh (by omega) (s : Int) (fun _ => ?_) (fun h => absurd h (by omega))
  refine wp_if_eq (tgt := 27) dX8_tells_4 (by decide) (fun h => absurd h (by decide)) (fun _ => ?_)
  refine wp_aload_n dX8_tells_7 rfl rfl ?_
  refine wp_iload_n dX8_tells_8 rfl rfl ?_
  refine wp_callV0 (d' := d - 1) cv_RX8_97 69 rfl [(0, o)] [] rfl rfl (Or.inl ⟨_, _, rfl, by decide, rfl, by omega, by omega⟩) (by omega) (Nat.le_of_ble_eq_true rfl) dX8_tells_9 rfl (Nat.le_of_ble_eq_true rfl) (by omega) (loc1 := [(2, 69), (0, o)]) rfl ?_
  refine sp_isOne hn hI (by omega) o (fun _ => ?_) (fun h => absurd ho h)
  refine wp_if_eq (tgt := 27) dX8_tells_12 (by decide) (fun h => absurd h (by decide)) (fun _ => ?_)
  refine wp_iload_n dX8_tells_15 rfl rfl ?_
  refine wp_i2l dX8_tells_16 ?_
  refine wp_lconst (v := 0) dX8_tells_17 (by decide) (by decide) ?_
  refine wp_ldc2 (x := 5) dX8_tells_18 kl_RX8_119 (by decide) (wr_l (by omega)) ?_
  refine wp_callS0 (d' := d - 1) cs_RX8_91 [(1, 3), (1, 0), (1, 5)] [] rfl rfl (Nat.le_of_ble_eq_true rfl) dX8_tells_21 rfl (Nat.le_of_ble_eq_true rfl) (by omega) (loc1 := [(1, 3), (9, 0), (1, 0), (9, 0), (1, 5), (9, 0)]) rfl ?_
  refine sp_in 3 0 5 (fun _ => ?_) (fun h => absurd (by decide) h)
  refine wp_if_ne (tgt := 30) dX8_tells_24 (by decide) (fun _ => ?_) (fun h => absurd h (by decide))
  refine wp_aload_n dX8_tells_30 rfl rfl ?_
  refine wp_get 69 rfl fl_RX8_69 rfl ⟨by omega, by omega⟩ dX8_tells_31 rfl (v := 87) (sr_69_49 (M := M) hR) ?_
  refine wp_iload_n dX8_tells_34 rfl rfl ?_
  refine wp_zald 87 rfl rfl ⟨by omega, by omega⟩ ⟨by omega, by omega⟩ dX8_tells_35 (v := 1) (h87) ?_
  refine wp_if_ne (tgt := 42) dX8_tells_36 (by decide) (fun _ => ?_) (fun h => absurd h (by decide))
  refine wp_aload_n dX8_tells_42 rfl rfl ?_
  refine wp_get 69 rfl fl_RX8_75 rfl ⟨by omega, by omega⟩ dX8_tells_43 rfl (v := 89) (sr_69_51 (M := M) hR) ?_
  refine wp_iload_n dX8_tells_46 rfl rfl ?_
  refine wp_iald 89 rfl rfl ⟨by omega, by omega⟩ ⟨by omega, by omega⟩ dX8_tells_47 (v := (B s 1)) (h8.2.1) ?_
  refine wp_bipush dX8_tells_48 (by decide) (by decide) ?_
  refine wp_icmp_le (tgt := 56) dX8_tells_50 (by decide) (fun _ => ?_) (fun h => absurd h (by omega))
  refine wp_iload_n dX8_tells_56 rfl rfl ?_
  refine wp_if_ne (tgt := 66) dX8_tells_57 (by decide) (fun _ => ?_) (fun h => absurd h (by decide))
  refine wp_iload_n dX8_tells_66 rfl rfl ?_
  refine wp_iconst dX8_tells_67 (by decide) ?_
  refine wp_icmp_ne (tgt := 75) dX8_tells_68 (by decide) (fun _ => ?_) (fun h => absurd h (by decide))
  refine wp_iload_n dX8_tells_75 rfl rfl ?_
  refine wp_iconst dX8_tells_76 (by decide) ?_
  refine wp_icmp_ne (tgt := 84) dX8_tells_77 (by decide) (fun _ => ?_) (fun h => absurd h (by decide))
  refine wp_iload_n dX8_tells_84 rfl rfl ?_
  refine wp_iconst dX8_tells_85 (by decide) ?_
  refine wp_icmp_ne (tgt := 94) dX8_tells_86 (by decide) (fun _ => ?_) (fun h => absurd h (by decide))
  refine wp_iconst dX8_tells_94 (by decide) ?_
  refine wp_istore (loc' := [(2, 69), (0, (s : Int)), (0, o), (0, 3), (0, 4), (9, 0), (9, 0), (9, 0), (9, 0), (9, 0), (9, 0)]) dX8_tells_95 (Nat.le_of_ble_eq_true rfl) rfl ?_
  refine wp_iload dX8_tells_97 rfl ?_
  refine wp_bipush dX8_tells_99 (by decide) (by decide) ?_
  refine wp_icmp_ne (tgt := 111) dX8_tells_101 (by decide) (fun _ => ?_) (fun h => absurd h (by decide))
  refine wp_aload_n dX8_tells_111 rfl rfl ?_
  refine wp_iload_n dX8_tells_112 rfl rfl ?_
  refine wp_iload dX8_tells_113 rfl ?_
  refine wp_callV0 (d' := d - 1) cv_RX8_105 69 rfl [(0, o), (0, 4)] [] rfl rfl (Or.inl ⟨_, _, rfl, by decide, rfl, by omega, by omega⟩) (by omega) (Nat.le_of_ble_eq_true rfl) dX8_tells_115 rfl (Nat.le_of_ble_eq_true rfl) (by omega) (loc1 := [(2, 69), (0, o), (0, 4)]) rfl ?_
  refine sp_tolm_4 hn hI (by omega) o (fun M1 F1 => ?_)
  rw [show toldA E A o 4 = A.2 4 o.toNat from (if_neg (by decide)).trans ((if_neg (by omega)).trans rfl)]
  have I1 := hI.frs F1
  have A1 := I1.2.1
  refine wp_istore (loc' := [(2, 69), (0, (s : Int)), (0, o), (0, 3), (0, 4), (0, (A.2 4 o.toNat)), (9, 0), (9, 0), (9, 0), (9, 0), (9, 0)]) dX8_tells_118 (Nat.le_of_ble_eq_true rfl) rfl ?_
  refine wp_iload dX8_tells_120 rfl ?_
  refine wp_bipush dX8_tells_122 (by decide) (by decide) ?_
  refine wp_icmp_ne (tgt := 136) dX8_tells_124 (by decide) (fun _ => ?_) (fun h => absurd h (by decide))
  refine wp_iload dX8_tells_136 rfl ?_
  refine wp_iconst dX8_tells_138 (by decide) ?_
  refine wp_icmp_ne (tgt := 146) dX8_tells_139 (by decide) (fun _ => ?_) (fun h => absurd h (by decide))
  refine wp_iload dX8_tells_146 rfl ?_
  refine wp_callS0 (d' := d - 1) cs_RX8_101 [(0, 4)] [] rfl rfl (Nat.le_of_ble_eq_true rfl) dX8_tells_148 rfl (Nat.le_of_ble_eq_true rfl) (by omega) (loc1 := [(0, 4)]) rfl ?_
  refine wp_iload_n dX8_mostOf_0 rfl rfl ?_
  refine wp_if_ne (tgt := 10) dX8_mostOf_1 (by decide) (fun _ => ?_) (fun h => absurd h (by decide))
  refine wp_iload_n dX8_mostOf_10 rfl rfl ?_
  refine wp_iconst dX8_mostOf_11 (by decide) ?_
  refine wp_icmp_ne (tgt := 20) dX8_mostOf_12 (by decide) (fun _ => ?_) (fun h => absurd h (by decide))
  refine wp_iload_n dX8_mostOf_20 rfl rfl ?_
  refine wp_iconst dX8_mostOf_21 (by decide) ?_
  refine wp_icmp_ne (tgt := 30) dX8_mostOf_22 (by decide) (fun _ => ?_) (fun h => absurd h (by decide))
  refine wp_iload_n dX8_mostOf_30 rfl rfl ?_
  refine wp_iconst dX8_mostOf_31 (by decide) ?_
  refine wp_icmp_ne (tgt := 40) dX8_mostOf_32 (by decide) (fun _ => ?_) (fun h => absurd h (by decide))
  refine wp_bipush dX8_mostOf_40 (by decide) (by decide) ?_
  refine wp_iret rfl dX8_mostOf_42 ?_
  refine wp_istore (loc' := [(2, 69), (0, (s : Int)), (0, o), (0, 3), (0, 4), (0, (A.2 4 o.toNat)), (0, 40), (9, 0), (9, 0), (9, 0), (9, 0)]) dX8_tells_151 (Nat.le_of_ble_eq_true rfl) rfl ?_
  refine wp_iconst dX8_tells_153 (by decide) ?_
  refine wp_istore (loc' := [(2, 69), (0, (s : Int)), (0, o), (0, 3), (0, 4), (0, (A.2 4 o.toNat)), (0, 40), (0, 0), (9, 0), (9, 0), (9, 0)]) dX8_tells_154 (Nat.le_of_ble_eq_true rfl) rfl ?_
  refine wp_iconst dX8_tells_156 (by decide) ?_
  refine wp_istore (loc' := [(2, 69), (0, (s : Int)), (0, o), (0, 3), (0, 4), (0, (A.2 4 o.toNat)), (0, 40), (0, 0), (0, 0), (9, 0), (9, 0)]) dX8_tells_157 (Nat.le_of_ble_eq_true rfl) rfl ?_
  refine wp_iconst dX8_tells_159 (by decide) ?_
  refine wp_istore (loc' := [(2, 69), (0, (s : Int)), (0, o), (0, 3), (0, 4), (0, (A.2 4 o.toNat)), (0, 40), (0, 0), (0, 0), (0, (-1)), (9, 0)]) dX8_tells_160 (Nat.le_of_ble_eq_true rfl) rfl ?_
  refine wp_iload dX8_tells_162 rfl ?_
  refine wp_istore (loc' := [(2, 69), (0, (s : Int)), (0, o), (0, 3), (0, 4), (0, (A.2 4 o.toNat)), (0, 40), (0, 0), (0, 0), (0, (-1)), (0, 40)]) dX8_tells_164 (Nat.le_of_ble_eq_true rfl) rfl ?_
  obtain ⟨N, hN⟩ : ∃ N, (B s 1).toNat = N := ⟨_, rfl⟩
  have I0 : MJ M1 (lyA A 3 o (A.2 4 o.toNat)) E := by
    rw [show lyA A 3 o (A.2 4 o.toNat) = A from setA_was]
    exact I1
  refine lp_tlm_3 hn (by omega) hW hV (H := 41) (x := M 69 3) hs hT hN ho (by decide) 41 M1 (A.2 4 o.toNat) 0 0 (-1) _ 0 (by omega) (by omega) (F1 69 3 (by unfold VMs; omega)) I0 (hB.fr (F1.mono VMs.l) VMl.nh) trivial rfl rfl (fun M2 y u st ct ls I2 F2 hst hct hls => ?_)
  have R2 := I2.1
  refine wp_aload_n dX8_tells_222 rfl rfl ?_
  refine wp_iload dX8_tells_223 rfl ?_
  refine wp_iload_n dX8_tells_225 rfl rfl ?_
  refine wp_iload dX8_tells_226 rfl ?_
  refine wp_callV0 (d' := d - 1) cv_RX8_109 69 rfl [(0, 4), (0, o), (0, (A.2 4 o.toNat))] [] rfl rfl (Or.inl ⟨_, _, rfl, by decide, rfl, by omega, by omega⟩) (by omega) (Nat.le_of_ble_eq_true rfl) dX8_tells_228 rfl (Nat.le_of_ble_eq_true rfl) (by omega) (loc1 := [(2, 69), (0, 4), (0, o), (0, (A.2 4 o.toNat))]) rfl ?_
  refine wp_iload_n dX8_lays_0 rfl rfl ?_
  refine wp_if_ne (tgt := 12) dX8_lays_1 (by decide) (fun _ => ?_) (fun h => absurd h (by decide))
  refine wp_iload_n dX8_lays_12 rfl rfl ?_
  refine wp_iconst dX8_lays_13 (by decide) ?_
  refine wp_icmp_ge (tgt := 33) dX8_lays_14 (by decide) (fun h => absurd h (by decide)) (fun _ => ?_)
  refine wp_aload_n dX8_lays_17 rfl rfl ?_
  refine wp_get 69 rfl fl_RX8_26 rfl ⟨by omega, by omega⟩ dX8_lays_18 rfl (v := 74) (sr_69_9 (M := M2) R2) ?_
  refine wp_iconst dX8_lays_21 (by decide) ?_
  refine wp_iload_n dX8_lays_22 rfl rfl ?_
  refine wp_imul dX8_lays_23 (by omega) ?_
  refine wp_iload_n dX8_lays_24 rfl rfl ?_
  refine wp_iadd dX8_lays_25 (by omega) ?_
  refine wp_iconst dX8_lays_26 (by decide) ?_
  refine wp_isub dX8_lays_27 (by omega) ?_
  refine wp_iload_n dX8_lays_28 rfl rfl ?_
  refine wp_iast 74 rfl rfl ⟨by omega, by omega⟩ ⟨by omega, by omega⟩ dX8_lays_29 (jn := (4 * o.toNat + 3)) (by omega) ?_
  refine wp_goto (tgt := 53) dX8_lays_30 (by decide) ?_
  refine wp_vret rfl dX8_lays_53 ?_
  refine wp_iload_n dX8_tells_231 rfl rfl ?_
  refine wp_iconst dX8_tells_232 (by decide) ?_
  refine wp_icmp_ne (tgt := 241) dX8_tells_233 (by decide) (fun h => absurd h (by decide)) (fun _ => ?_)
  refine wp_iload dX8_tells_236 rfl ?_
  refine wp_goto (tgt := 253) dX8_tells_238 (by decide) ?_
  refine wp_iret rfl dX8_tells_253 ?_
  have g3 : Fr VMl M2 (mu M2 74 (4 * o.toNat + 3) (A.2 4 o.toNat)) := Fr.rf.put (by unfold VMl VMs; omega)
  have a3 : Rm (mu M2 74 (4 * o.toNat + 3) (A.2 4 o.toNat)) A := by
    have h : Rm (mu M2 74 (4 * o.toNat + 3) (A.2 4 o.toNat)) (lyA (lyA A 3 o y) 3 o (A.2 4 o.toNat)) := I2.2.1.setR (r := 3) (i := o.toNat) (by omega)
    have e := lyA_ly (A := A) (w := 3) (o := o) (y := y) (v := (A.2 4 o.toNat))
    have e2 : lyA A 3 o (A.2 4 o.toNat) = A := setA_was
    have e3 := e.trans e2
    rw [e3] at h
    exact h
  have FF : Fr VMt M (mu M2 74 (4 * o.toNat + 3) (A.2 4 o.toNat)) := ((F1.mono VMs.l).mono VMl.t).tr (F2.tr (g3.mono VMl.t))
  have I3 : MJ (mu M2 74 (4 * o.toNat + 3) (A.2 4 o.toNat)) A E := I2.new g3 a3 hW (by rw [(F2 69 3 (by unfold VMt VMl VMs VMw; omega)), (F1 69 3 (by unfold VMs; omega))]; exact hr)
  have q0 := k _ I3 FF
  rw [hN] at q0
  rw [tls_3, ← tpC_all, ← hct] at q0
  exact q0
set_option maxRecDepth 20000 in
set_option maxHeartbeats 4000000 in
theorem sp_tlsm_4 {l : Launch} {g : Gw} {d n : Nat} {M : Mm} {Q : Option Wd → Mm → Prop} (hn : 90 ≤ n) {A : Ls} {E : Ev} (hI : MJ M A E) (hd : 78 ≤ d) {B : Mm} (hB : Rms M B) (hV : Ws B) {s : Nat} (hs : s < 4) (hT : B s 0 ≠ -1) (h30 : B s 1 ≤ 30) (o : Int) (ho : 0 ≤ o ∧ o < A.1 2) (k : ∀ M', MJ M' A E → Fr VMt M M' → Q (some (0, tlsA E (fun i => B s (2 + i)) (B s 1).toNat (M 69 3) A o 4)) M') : Wp l g d 0 0 n m_X8_tells 0 [] [(2, 69), (0, (s : Int)), (0, o), (0, 4), (9, 0), (9, 0), (9, 0), (9, 0), (9, 0), (9, 0), (9, 0)] M Q := by
  obtain ⟨hR, hA, hW, hr, hX⟩ := id hI
  have w2 := hW.1
  have w5 := hW.2.1
  have w3 := hW.2.2.1
  have w32 := hW.2.2.2.1
  have hX1 := hX.1
  have hX2 := hX.2.1
  have h87 : M 87 s = 1 := (hB s hs).1.trans (if_neg hT)
  have h8 := (hB s hs).2 hT
  refine wp_iload_n dX8_tells_0 rfl rfl ?_
  refine wp_callS0 (d' := d - 1) cs_RX8_439 [(0, (s : Int))] [] rfl rfl (Nat.le_of_ble_eq_true rfl) dX8_tells_1 rfl (Nat.le_of_ble_eq_true rfl) (by omega) (loc1 := [(0, (s : Int))]) rfl ?_
  refine sp_isSh (by omega) (s : Int) (fun _ => ?_) (fun h => absurd h (by omega))
  refine wp_if_eq (tgt := 27) dX8_tells_4 (by decide) (fun h => absurd h (by decide)) (fun _ => ?_)
  refine wp_aload_n dX8_tells_7 rfl rfl ?_
  refine wp_iload_n dX8_tells_8 rfl rfl ?_
  refine wp_callV0 (d' := d - 1) cv_RX8_97 69 rfl [(0, o)] [] rfl rfl (Or.inl ⟨_, _, rfl, by decide, rfl, by omega, by omega⟩) (by omega) (Nat.le_of_ble_eq_true rfl) dX8_tells_9 rfl (Nat.le_of_ble_eq_true rfl) (by omega) (loc1 := [(2, 69), (0, o)]) rfl ?_
  refine sp_isOne hn hI (by omega) o (fun _ => ?_) (fun h => absurd ho h)
  refine wp_if_eq (tgt := 27) dX8_tells_12 (by decide) (fun h => absurd h (by decide)) (fun _ => ?_)
  refine wp_iload_n dX8_tells_15 rfl rfl ?_
  refine wp_i2l dX8_tells_16 ?_
  refine wp_lconst (v := 0) dX8_tells_17 (by decide) (by decide) ?_
  refine wp_ldc2 (x := 5) dX8_tells_18 kl_RX8_119 (by decide) (wr_l (by omega)) ?_
  refine wp_callS0 (d' := d - 1) cs_RX8_91 [(1, 4), (1, 0), (1, 5)] [] rfl rfl (Nat.le_of_ble_eq_true rfl) dX8_tells_21 rfl (Nat.le_of_ble_eq_true rfl) (by omega) (loc1 := [(1, 4), (9, 0), (1, 0), (9, 0), (1, 5), (9, 0)]) rfl ?_
  refine sp_in 4 0 5 (fun _ => ?_) (fun h => absurd (by decide) h)
  refine wp_if_ne (tgt := 30) dX8_tells_24 (by decide) (fun _ => ?_) (fun h => absurd h (by decide))
  refine wp_aload_n dX8_tells_30 rfl rfl ?_
  refine wp_get 69 rfl fl_RX8_69 rfl ⟨by omega, by omega⟩ dX8_tells_31 rfl (v := 87) (sr_69_49 (M := M) hR) ?_
  refine wp_iload_n dX8_tells_34 rfl rfl ?_
  refine wp_zald 87 rfl rfl ⟨by omega, by omega⟩ ⟨by omega, by omega⟩ dX8_tells_35 (v := 1) (h87) ?_
  refine wp_if_ne (tgt := 42) dX8_tells_36 (by decide) (fun _ => ?_) (fun h => absurd h (by decide))
  refine wp_aload_n dX8_tells_42 rfl rfl ?_
  refine wp_get 69 rfl fl_RX8_75 rfl ⟨by omega, by omega⟩ dX8_tells_43 rfl (v := 89) (sr_69_51 (M := M) hR) ?_
  refine wp_iload_n dX8_tells_46 rfl rfl ?_
  refine wp_iald 89 rfl rfl ⟨by omega, by omega⟩ ⟨by omega, by omega⟩ dX8_tells_47 (v := (B s 1)) (h8.2.1) ?_
  refine wp_bipush dX8_tells_48 (by decide) (by decide) ?_
  refine wp_icmp_le (tgt := 56) dX8_tells_50 (by decide) (fun _ => ?_) (fun h => absurd h (by omega))
  refine wp_iload_n dX8_tells_56 rfl rfl ?_
  refine wp_if_ne (tgt := 66) dX8_tells_57 (by decide) (fun _ => ?_) (fun h => absurd h (by decide))
  refine wp_iload_n dX8_tells_66 rfl rfl ?_
  refine wp_iconst dX8_tells_67 (by decide) ?_
  refine wp_icmp_ne (tgt := 75) dX8_tells_68 (by decide) (fun _ => ?_) (fun h => absurd h (by decide))
  refine wp_iload_n dX8_tells_75 rfl rfl ?_
  refine wp_iconst dX8_tells_76 (by decide) ?_
  refine wp_icmp_ne (tgt := 84) dX8_tells_77 (by decide) (fun _ => ?_) (fun h => absurd h (by decide))
  refine wp_iload_n dX8_tells_84 rfl rfl ?_
  refine wp_iconst dX8_tells_85 (by decide) ?_
  refine wp_icmp_ne (tgt := 94) dX8_tells_86 (by decide) (fun _ => ?_) (fun h => absurd h (by decide))
  refine wp_iconst dX8_tells_94 (by decide) ?_
  refine wp_istore (loc' := [(2, 69), (0, (s : Int)), (0, o), (0, 4), (0, 4), (9, 0), (9, 0), (9, 0), (9, 0), (9, 0), (9, 0)]) dX8_tells_95 (Nat.le_of_ble_eq_true rfl) rfl ?_
  refine wp_iload dX8_tells_97 rfl ?_
  refine wp_bipush dX8_tells_99 (by decide) (by decide) ?_
  refine wp_icmp_ne (tgt := 111) dX8_tells_101 (by decide) (fun _ => ?_) (fun h => absurd h (by decide))
  refine wp_aload_n dX8_tells_111 rfl rfl ?_
  refine wp_iload_n dX8_tells_112 rfl rfl ?_
  refine wp_iload dX8_tells_113 rfl ?_
  refine wp_callV0 (d' := d - 1) cv_RX8_105 69 rfl [(0, o), (0, 4)] [] rfl rfl (Or.inl ⟨_, _, rfl, by decide, rfl, by omega, by omega⟩) (by omega) (Nat.le_of_ble_eq_true rfl) dX8_tells_115 rfl (Nat.le_of_ble_eq_true rfl) (by omega) (loc1 := [(2, 69), (0, o), (0, 4)]) rfl ?_
  refine sp_tolm_4 hn hI (by omega) o (fun M1 F1 => ?_)
  rw [show toldA E A o 4 = A.2 4 o.toNat from (if_neg (by decide)).trans ((if_neg (by omega)).trans rfl)]
  have I1 := hI.frs F1
  have A1 := I1.2.1
  refine wp_istore (loc' := [(2, 69), (0, (s : Int)), (0, o), (0, 4), (0, 4), (0, (A.2 4 o.toNat)), (9, 0), (9, 0), (9, 0), (9, 0), (9, 0)]) dX8_tells_118 (Nat.le_of_ble_eq_true rfl) rfl ?_
  refine wp_iload dX8_tells_120 rfl ?_
  refine wp_bipush dX8_tells_122 (by decide) (by decide) ?_
  refine wp_icmp_ne (tgt := 136) dX8_tells_124 (by decide) (fun _ => ?_) (fun h => absurd h (by decide))
  refine wp_iload dX8_tells_136 rfl ?_
  refine wp_iconst dX8_tells_138 (by decide) ?_
  refine wp_icmp_ne (tgt := 146) dX8_tells_139 (by decide) (fun _ => ?_) (fun h => absurd h (by decide))
  refine wp_iload dX8_tells_146 rfl ?_
  refine wp_callS0 (d' := d - 1) cs_RX8_101 [(0, 4)] [] rfl rfl (Nat.le_of_ble_eq_true rfl) dX8_tells_148 rfl (Nat.le_of_ble_eq_true rfl) (by omega) (loc1 := [(0, 4)]) rfl ?_
  refine wp_iload_n dX8_mostOf_0 rfl rfl ?_
  refine wp_if_ne (tgt := 10) dX8_mostOf_1 (by decide) (fun _ => ?_) (fun h => absurd h (by decide))
  refine wp_iload_n dX8_mostOf_10 rfl rfl ?_
  refine wp_iconst dX8_mostOf_11 (by decide) ?_
  refine wp_icmp_ne (tgt := 20) dX8_mostOf_12 (by decide) (fun _ => ?_) (fun h => absurd h (by decide))
  refine wp_iload_n dX8_mostOf_20 rfl rfl ?_
  refine wp_iconst dX8_mostOf_21 (by decide) ?_
  refine wp_icmp_ne (tgt := 30) dX8_mostOf_22 (by decide) (fun _ => ?_) (fun h => absurd h (by decide))
  refine wp_iload_n dX8_mostOf_30 rfl rfl ?_
  refine wp_iconst dX8_mostOf_31 (by decide) ?_
  refine wp_icmp_ne (tgt := 40) dX8_mostOf_32 (by decide) (fun _ => ?_) (fun h => absurd h (by decide))
  refine wp_bipush dX8_mostOf_40 (by decide) (by decide) ?_
  refine wp_iret rfl dX8_mostOf_42 ?_
  refine wp_istore (loc' := [(2, 69), (0, (s : Int)), (0, o), (0, 4), (0, 4), (0, (A.2 4 o.toNat)), (0, 40), (9, 0), (9, 0), (9, 0), (9, 0)]) dX8_tells_151 (Nat.le_of_ble_eq_true rfl) rfl ?_
  refine wp_iconst dX8_tells_153 (by decide) ?_
  refine wp_istore (loc' := [(2, 69), (0, (s : Int)), (0, o), (0, 4), (0, 4), (0, (A.2 4 o.toNat)), (0, 40), (0, 0), (9, 0), (9, 0), (9, 0)]) dX8_tells_154 (Nat.le_of_ble_eq_true rfl) rfl ?_
  refine wp_iconst dX8_tells_156 (by decide) ?_
  refine wp_istore (loc' := [(2, 69), (0, (s : Int)), (0, o), (0, 4), (0, 4), (0, (A.2 4 o.toNat)), (0, 40), (0, 0), (0, 0), (9, 0), (9, 0)]) dX8_tells_157 (Nat.le_of_ble_eq_true rfl) rfl ?_
  refine wp_iconst dX8_tells_159 (by decide) ?_
  refine wp_istore (loc' := [(2, 69), (0, (s : Int)), (0, o), (0, 4), (0, 4), (0, (A.2 4 o.toNat)), (0, 40), (0, 0), (0, 0), (0, (-1)), (9, 0)]) dX8_tells_160 (Nat.le_of_ble_eq_true rfl) rfl ?_
  refine wp_iload dX8_tells_162 rfl ?_
  refine wp_istore (loc' := [(2, 69), (0, (s : Int)), (0, o), (0, 4), (0, 4), (0, (A.2 4 o.toNat)), (0, 40), (0, 0), (0, 0), (0, (-1)), (0, 40)]) dX8_tells_164 (Nat.le_of_ble_eq_true rfl) rfl ?_
  obtain ⟨N, hN⟩ : ∃ N, (B s 1).toNat = N := ⟨_, rfl⟩
  have I0 : MJ M1 (lyA A 4 o (A.2 4 o.toNat)) E := by
    rw [show lyA A 4 o (A.2 4 o.toNat) = A from setA_was]
    exact I1
  refine lp_tlm_4 hn (by omega) hW hV (H := 41) (x := M 69 3) hs hT hN ho (by decide) 41 M1 (A.2 4 o.toNat) 0 0 (-1) _ 0 (by omega) (by omega) (F1 69 3 (by unfold VMs; omega)) I0 (hB.fr (F1.mono VMs.l) VMl.nh) trivial rfl rfl (fun M2 y u st ct ls I2 F2 hst hct hls => ?_)
  have R2 := I2.1
  refine wp_aload_n dX8_tells_222 rfl rfl ?_
  refine wp_iload dX8_tells_223 rfl ?_
  refine wp_iload_n dX8_tells_225 rfl rfl ?_
  refine wp_iload dX8_tells_226 rfl ?_
  refine wp_callV0 (d' := d - 1) cv_RX8_109 69 rfl [(0, 4), (0, o), (0, (A.2 4 o.toNat))] [] rfl rfl (Or.inl ⟨_, _, rfl, by decide, rfl, by omega, by omega⟩) (by omega) (Nat.le_of_ble_eq_true rfl) dX8_tells_228 rfl (Nat.le_of_ble_eq_true rfl) (by omega) (loc1 := [(2, 69), (0, 4), (0, o), (0, (A.2 4 o.toNat))]) rfl ?_
  refine wp_iload_n dX8_lays_0 rfl rfl ?_
  refine wp_if_ne (tgt := 12) dX8_lays_1 (by decide) (fun _ => ?_) (fun h => absurd h (by decide))
  refine wp_iload_n dX8_lays_12 rfl rfl ?_
  refine wp_iconst dX8_lays_13 (by decide) ?_
  refine wp_icmp_ge (tgt := 33) dX8_lays_14 (by decide) (fun h => absurd h (by decide)) (fun _ => ?_)
  refine wp_aload_n dX8_lays_17 rfl rfl ?_
  refine wp_get 69 rfl fl_RX8_26 rfl ⟨by omega, by omega⟩ dX8_lays_18 rfl (v := 74) (sr_69_9 (M := M2) R2) ?_
  refine wp_iconst dX8_lays_21 (by decide) ?_
  refine wp_iload_n dX8_lays_22 rfl rfl ?_
  refine wp_imul dX8_lays_23 (by omega) ?_
  refine wp_iload_n dX8_lays_24 rfl rfl ?_
  refine wp_iadd dX8_lays_25 (by omega) ?_
  refine wp_iconst dX8_lays_26 (by decide) ?_
  refine wp_isub dX8_lays_27 (by omega) ?_
  refine wp_iload_n dX8_lays_28 rfl rfl ?_
  refine wp_iast 74 rfl rfl ⟨by omega, by omega⟩ ⟨by omega, by omega⟩ dX8_lays_29 (jn := (4 * o.toNat + 3)) (by omega) ?_
  refine wp_goto (tgt := 53) dX8_lays_30 (by decide) ?_
  refine wp_vret rfl dX8_lays_53 ?_
  refine wp_iload_n dX8_tells_231 rfl rfl ?_
  refine wp_iconst dX8_tells_232 (by decide) ?_
  refine wp_icmp_ne (tgt := 241) dX8_tells_233 (by decide) (fun _ => ?_) (fun h => absurd h (by decide))
  refine wp_iload_n dX8_tells_241 rfl rfl ?_
  refine wp_iconst dX8_tells_242 (by decide) ?_
  refine wp_icmp_ne (tgt := 251) dX8_tells_243 (by decide) (fun h => absurd h (by decide)) (fun _ => ?_)
  refine wp_iload dX8_tells_246 rfl ?_
  refine wp_goto (tgt := 253) dX8_tells_248 (by decide) ?_
  refine wp_iret rfl dX8_tells_253 ?_
  have g3 : Fr VMl M2 (mu M2 74 (4 * o.toNat + 3) (A.2 4 o.toNat)) := Fr.rf.put (by unfold VMl VMs; omega)
  have a3 : Rm (mu M2 74 (4 * o.toNat + 3) (A.2 4 o.toNat)) A := by
    have h : Rm (mu M2 74 (4 * o.toNat + 3) (A.2 4 o.toNat)) (lyA (lyA A 4 o y) 4 o (A.2 4 o.toNat)) := I2.2.1.setR (r := 3) (i := o.toNat) (by omega)
    have e := lyA_ly (A := A) (w := 4) (o := o) (y := y) (v := (A.2 4 o.toNat))
    have e2 : lyA A 4 o (A.2 4 o.toNat) = A := setA_was
    have e3 := e.trans e2
    rw [e3] at h
    exact h
  have FF : Fr VMt M (mu M2 74 (4 * o.toNat + 3) (A.2 4 o.toNat)) := ((F1.mono VMs.l).mono VMl.t).tr (F2.tr (g3.mono VMl.t))
  have I3 : MJ (mu M2 74 (4 * o.toNat + 3) (A.2 4 o.toNat)) A E := I2.new g3 a3 hW (by rw [(F2 69 3 (by unfold VMt VMl VMs VMw; omega)), (F1 69 3 (by unfold VMs; omega))]; exact hr)
  have q0 := k _ I3 FF
  rw [hN] at q0
  rw [tls_4, ← hls] at q0
  exact q0
set_option maxRecDepth 20000 in
set_option maxHeartbeats 4000000 in
theorem sp_tlsm_5 {l : Launch} {g : Gw} {d n : Nat} {M : Mm} {Q : Option Wd → Mm → Prop} (hn : 90 ≤ n) {A : Ls} {E : Ev} (hI : MJ M A E) (hd : 78 ≤ d) {B : Mm} (hB : Rms M B) (hV : Ws B) {s : Nat} (hs : s < 4) (hT : B s 0 ≠ -1) (h30 : B s 1 ≤ 30) (o : Int) (ho : 0 ≤ o ∧ o < A.1 2) (k : ∀ M', MJ M' A E → Fr VMt M M' → Q (some (0, tlsA E (fun i => B s (2 + i)) (B s 1).toNat (M 69 3) A o 5)) M') : Wp l g d 0 0 n m_X8_tells 0 [] [(2, 69), (0, (s : Int)), (0, o), (0, 5), (9, 0), (9, 0), (9, 0), (9, 0), (9, 0), (9, 0), (9, 0)] M Q := by
  obtain ⟨hR, hA, hW, hr, hX⟩ := id hI
  have w2 := hW.1
  have w5 := hW.2.1
  have w3 := hW.2.2.1
  have w32 := hW.2.2.2.1
  have hX1 := hX.1
  have hX2 := hX.2.1
  have h87 : M 87 s = 1 := (hB s hs).1.trans (if_neg hT)
  have h8 := (hB s hs).2 hT
  refine wp_iload_n dX8_tells_0 rfl rfl ?_
  refine wp_callS0 (d' := d - 1) cs_RX8_439 [(0, (s : Int))] [] rfl rfl (Nat.le_of_ble_eq_true rfl) dX8_tells_1 rfl (Nat.le_of_ble_eq_true rfl) (by omega) (loc1 := [(0, (s : Int))]) rfl ?_
  refine sp_isSh (by omega) (s : Int) (fun _ => ?_) (fun h => absurd h (by omega))
  refine wp_if_eq (tgt := 27) dX8_tells_4 (by decide) (fun h => absurd h (by decide)) (fun _ => ?_)
  refine wp_aload_n dX8_tells_7 rfl rfl ?_
  refine wp_iload_n dX8_tells_8 rfl rfl ?_
  refine wp_callV0 (d' := d - 1) cv_RX8_97 69 rfl [(0, o)] [] rfl rfl (Or.inl ⟨_, _, rfl, by decide, rfl, by omega, by omega⟩) (by omega) (Nat.le_of_ble_eq_true rfl) dX8_tells_9 rfl (Nat.le_of_ble_eq_true rfl) (by omega) (loc1 := [(2, 69), (0, o)]) rfl ?_
  refine sp_isOne hn hI (by omega) o (fun _ => ?_) (fun h => absurd ho h)
  refine wp_if_eq (tgt := 27) dX8_tells_12 (by decide) (fun h => absurd h (by decide)) (fun _ => ?_)
  refine wp_iload_n dX8_tells_15 rfl rfl ?_
  refine wp_i2l dX8_tells_16 ?_
  refine wp_lconst (v := 0) dX8_tells_17 (by decide) (by decide) ?_
  refine wp_ldc2 (x := 5) dX8_tells_18 kl_RX8_119 (by decide) (wr_l (by omega)) ?_
  refine wp_callS0 (d' := d - 1) cs_RX8_91 [(1, 5), (1, 0), (1, 5)] [] rfl rfl (Nat.le_of_ble_eq_true rfl) dX8_tells_21 rfl (Nat.le_of_ble_eq_true rfl) (by omega) (loc1 := [(1, 5), (9, 0), (1, 0), (9, 0), (1, 5), (9, 0)]) rfl ?_
  refine sp_in 5 0 5 (fun _ => ?_) (fun h => absurd (by decide) h)
  refine wp_if_ne (tgt := 30) dX8_tells_24 (by decide) (fun _ => ?_) (fun h => absurd h (by decide))
  refine wp_aload_n dX8_tells_30 rfl rfl ?_
  refine wp_get 69 rfl fl_RX8_69 rfl ⟨by omega, by omega⟩ dX8_tells_31 rfl (v := 87) (sr_69_49 (M := M) hR) ?_
  refine wp_iload_n dX8_tells_34 rfl rfl ?_
  refine wp_zald 87 rfl rfl ⟨by omega, by omega⟩ ⟨by omega, by omega⟩ dX8_tells_35 (v := 1) (h87) ?_
  refine wp_if_ne (tgt := 42) dX8_tells_36 (by decide) (fun _ => ?_) (fun h => absurd h (by decide))
  refine wp_aload_n dX8_tells_42 rfl rfl ?_
  refine wp_get 69 rfl fl_RX8_75 rfl ⟨by omega, by omega⟩ dX8_tells_43 rfl (v := 89) (sr_69_51 (M := M) hR) ?_
  refine wp_iload_n dX8_tells_46 rfl rfl ?_
  refine wp_iald 89 rfl rfl ⟨by omega, by omega⟩ ⟨by omega, by omega⟩ dX8_tells_47 (v := (B s 1)) (h8.2.1) ?_
  refine wp_bipush dX8_tells_48 (by decide) (by decide) ?_
  refine wp_icmp_le (tgt := 56) dX8_tells_50 (by decide) (fun _ => ?_) (fun h => absurd h (by omega))
  refine wp_iload_n dX8_tells_56 rfl rfl ?_
  refine wp_if_ne (tgt := 66) dX8_tells_57 (by decide) (fun _ => ?_) (fun h => absurd h (by decide))
  refine wp_iload_n dX8_tells_66 rfl rfl ?_
  refine wp_iconst dX8_tells_67 (by decide) ?_
  refine wp_icmp_ne (tgt := 75) dX8_tells_68 (by decide) (fun _ => ?_) (fun h => absurd h (by decide))
  refine wp_iload_n dX8_tells_75 rfl rfl ?_
  refine wp_iconst dX8_tells_76 (by decide) ?_
  refine wp_icmp_ne (tgt := 84) dX8_tells_77 (by decide) (fun _ => ?_) (fun h => absurd h (by decide))
  refine wp_iload_n dX8_tells_84 rfl rfl ?_
  refine wp_iconst dX8_tells_85 (by decide) ?_
  refine wp_icmp_ne (tgt := 94) dX8_tells_86 (by decide) (fun h => absurd h (by decide)) (fun _ => ?_)
  refine wp_bipush dX8_tells_89 (by decide) (by decide) ?_
  refine wp_goto (tgt := 95) dX8_tells_91 (by decide) ?_
  refine wp_istore (loc' := [(2, 69), (0, (s : Int)), (0, o), (0, 5), (0, 6), (9, 0), (9, 0), (9, 0), (9, 0), (9, 0), (9, 0)]) dX8_tells_95 (Nat.le_of_ble_eq_true rfl) rfl ?_
  refine wp_iload dX8_tells_97 rfl ?_
  refine wp_bipush dX8_tells_99 (by decide) (by decide) ?_
  refine wp_icmp_ne (tgt := 111) dX8_tells_101 (by decide) (fun h => absurd h (by decide)) (fun _ => ?_)
  refine wp_aload_n dX8_tells_104 rfl rfl ?_
  refine wp_get 69 rfl fl_RX8_116 rfl ⟨by omega, by omega⟩ dX8_tells_105 rfl (v := (A.1 1)) (hA.2.1) ?_
  refine wp_goto (tgt := 118) dX8_tells_108 (by decide) ?_
  refine wp_istore (loc' := [(2, 69), (0, (s : Int)), (0, o), (0, 5), (0, 6), (0, (A.1 1)), (9, 0), (9, 0), (9, 0), (9, 0), (9, 0)]) dX8_tells_118 (Nat.le_of_ble_eq_true rfl) rfl ?_
  refine wp_iload dX8_tells_120 rfl ?_
  refine wp_bipush dX8_tells_122 (by decide) (by decide) ?_
  refine wp_icmp_ne (tgt := 136) dX8_tells_124 (by decide) (fun h => absurd h (by decide)) (fun _ => ?_)
  refine wp_aload_n dX8_tells_127 rfl rfl ?_
  refine wp_get 69 rfl fl_RX8_85 rfl ⟨by omega, by omega⟩ dX8_tells_128 rfl (v := (M 69 3)) (rfl) ?_
  refine wp_iconst dX8_tells_131 (by decide) ?_
  refine wp_isub dX8_tells_132 (by omega) ?_
  refine wp_goto (tgt := 151) dX8_tells_133 (by decide) ?_
  refine wp_istore (loc' := [(2, 69), (0, (s : Int)), (0, o), (0, 5), (0, 6), (0, (A.1 1)), (0, ((M 69 3) - 1)), (9, 0), (9, 0), (9, 0), (9, 0)]) dX8_tells_151 (Nat.le_of_ble_eq_true rfl) rfl ?_
  refine wp_iconst dX8_tells_153 (by decide) ?_
  refine wp_istore (loc' := [(2, 69), (0, (s : Int)), (0, o), (0, 5), (0, 6), (0, (A.1 1)), (0, ((M 69 3) - 1)), (0, 0), (9, 0), (9, 0), (9, 0)]) dX8_tells_154 (Nat.le_of_ble_eq_true rfl) rfl ?_
  refine wp_iconst dX8_tells_156 (by decide) ?_
  refine wp_istore (loc' := [(2, 69), (0, (s : Int)), (0, o), (0, 5), (0, 6), (0, (A.1 1)), (0, ((M 69 3) - 1)), (0, 0), (0, 0), (9, 0), (9, 0)]) dX8_tells_157 (Nat.le_of_ble_eq_true rfl) rfl ?_
  refine wp_iconst dX8_tells_159 (by decide) ?_
  refine wp_istore (loc' := [(2, 69), (0, (s : Int)), (0, o), (0, 5), (0, 6), (0, (A.1 1)), (0, ((M 69 3) - 1)), (0, 0), (0, 0), (0, (-1)), (9, 0)]) dX8_tells_160 (Nat.le_of_ble_eq_true rfl) rfl ?_
  refine wp_iload dX8_tells_162 rfl ?_
  refine wp_istore (loc' := [(2, 69), (0, (s : Int)), (0, o), (0, 5), (0, 6), (0, (A.1 1)), (0, ((M 69 3) - 1)), (0, 0), (0, 0), (0, (-1)), (0, ((M 69 3) - 1))]) dX8_tells_164 (Nat.le_of_ble_eq_true rfl) rfl ?_
  obtain ⟨N, hN⟩ : ∃ N, (B s 1).toNat = N := ⟨_, rfl⟩
  have I0 : MJ M (lyA A 5 o (A.1 1)) E := by
    rw [show lyA A 5 o (A.1 1) = A from setS_was]
    exact hI
  obtain ⟨H, hH⟩ := Int.eq_ofNat_of_zero_le (show 0 ≤ M 69 3 by omega)
  refine lp_tlm_5 hn (by omega) hW hV (H := H) (x := M 69 3) hs hT hN ho hH.symm (by omega) H M (A.1 1) 0 0 (-1) _ 0 (by omega) (by omega) rfl I0 (hB.fr (Fr.rf : Fr VMl M M) VMl.nh) rfl rfl rfl (fun M2 y u st ct ls I2 F2 hst hct hls => ?_)
  have R2 := I2.1
  refine wp_aload_n dX8_tells_222 rfl rfl ?_
  refine wp_iload dX8_tells_223 rfl ?_
  refine wp_iload_n dX8_tells_225 rfl rfl ?_
  refine wp_iload dX8_tells_226 rfl ?_
  refine wp_callV0 (d' := d - 1) cv_RX8_109 69 rfl [(0, 6), (0, o), (0, (A.1 1))] [] rfl rfl (Or.inl ⟨_, _, rfl, by decide, rfl, by omega, by omega⟩) (by omega) (Nat.le_of_ble_eq_true rfl) dX8_tells_228 rfl (Nat.le_of_ble_eq_true rfl) (by omega) (loc1 := [(2, 69), (0, 6), (0, o), (0, (A.1 1))]) rfl ?_
  refine wp_iload_n dX8_lays_0 rfl rfl ?_
  refine wp_if_ne (tgt := 12) dX8_lays_1 (by decide) (fun _ => ?_) (fun h => absurd h (by decide))
  refine wp_iload_n dX8_lays_12 rfl rfl ?_
  refine wp_iconst dX8_lays_13 (by decide) ?_
  refine wp_icmp_ge (tgt := 33) dX8_lays_14 (by decide) (fun _ => ?_) (fun h => absurd h (by decide))
  refine wp_iload_n dX8_lays_33 rfl rfl ?_
  refine wp_iconst dX8_lays_34 (by decide) ?_
  refine wp_icmp_ne (tgt := 48) dX8_lays_35 (by decide) (fun _ => ?_) (fun h => absurd h (by decide))
  refine wp_aload_n dX8_lays_48 rfl rfl ?_
  refine wp_iload_n dX8_lays_49 rfl rfl ?_
  refine wp_puti 69 rfl fl_RX8_116 rfl ⟨by omega, by omega⟩ dX8_lays_50 rfl rfl ?_
  refine wp_vret rfl dX8_lays_53 ?_
  refine wp_iload_n dX8_tells_231 rfl rfl ?_
  refine wp_iconst dX8_tells_232 (by decide) ?_
  refine wp_icmp_ne (tgt := 241) dX8_tells_233 (by decide) (fun _ => ?_) (fun h => absurd h (by decide))
  refine wp_iload_n dX8_tells_241 rfl rfl ?_
  refine wp_iconst dX8_tells_242 (by decide) ?_
  refine wp_icmp_ne (tgt := 251) dX8_tells_243 (by decide) (fun _ => ?_) (fun h => absurd h (by decide))
  refine wp_iload dX8_tells_251 rfl ?_
  refine wp_iret rfl dX8_tells_253 ?_
  have g3 : Fr VMl M2 (mu M2 69 4 (A.1 1)) := Fr.rf.put (by unfold VMl VMs; omega)
  have a3 : Rm (mu M2 69 4 (A.1 1)) A := by
    have h : Rm (mu M2 69 4 (A.1 1)) (lyA (lyA A 5 o y) 5 o (A.1 1)) := I2.2.1.setT
    have e := lyA_ly (A := A) (w := 5) (o := o) (y := y) (v := (A.1 1))
    have e2 : lyA A 5 o (A.1 1) = A := setS_was
    have e3 := e.trans e2
    rw [e3] at h
    exact h
  have FF : Fr VMt M (mu M2 69 4 (A.1 1)) := ((Fr.rf : Fr VMl M M).mono VMl.t).tr (F2.tr (g3.mono VMl.t))
  have I3 : MJ (mu M2 69 4 (A.1 1)) A E := I2.new g3 a3 hW (by rw [(F2 69 3 (by unfold VMt VMl VMs VMw; omega))]; exact hr)
  have q0 := k _ I3 FF
  rw [hN] at q0
  rw [tls_5, show (M 69 3).toNat = H by omega, ← tpS_all, ← hst] at q0
  exact q0
set_option maxRecDepth 20000 in
set_option maxHeartbeats 4000000 in
theorem cm_tells {l : Launch} {g : Gw} {d n : Nat} {M : Mm} {Q : Option Wd → Mm → Prop} (hn : 90 ≤ n) {A : Ls} {E : Ev} (hI : MJ M A E) (hd : 78 ≤ d) {B : Mm} (hB : Rms M B) (hV : Ws B) (x o w : Int) (kB : ¬ (0 ≤ x ∧ x < 4 ∧ 0 ≤ o ∧ o < A.1 2 ∧ 0 ≤ w ∧ w ≤ 5) ∨ ((0 ≤ x ∧ x < 4 ∧ 0 ≤ o ∧ o < A.1 2 ∧ 0 ≤ w ∧ w ≤ 5) ∧ B x.toNat 0 ≠ -1 ∧ 30 < B x.toNat 1) → Q (some (0, -2)) M) (kN : (0 ≤ x ∧ x < 4 ∧ 0 ≤ o ∧ o < A.1 2 ∧ 0 ≤ w ∧ w ≤ 5) → B x.toNat 0 = -1 → Q (some (0, -11)) M) (k : (0 ≤ x ∧ x < 4 ∧ 0 ≤ o ∧ o < A.1 2 ∧ 0 ≤ w ∧ w ≤ 5) → B x.toNat 0 ≠ -1 → B x.toNat 1 ≤ 30 → ∀ M', MJ M' A E → Fr VMt M M' → Q (some (0, tlsA E (fun i => B x.toNat (2 + i)) (B x.toNat 1).toNat (M 69 3) A o w)) M') : Wp l g d 0 0 n m_X8_tells 0 [] [(2, 69), (0, x), (0, o), (0, w), (9, 0), (9, 0), (9, 0), (9, 0), (9, 0), (9, 0), (9, 0)] M Q := by
  obtain ⟨hR, hA, hW, hr, hX⟩ := id hI
  have w2 := hW.1
  have w5 := hW.2.1
  have w3 := hW.2.2.1
  have w32 := hW.2.2.2.1
  by_cases hx : 0 ≤ x ∧ x < 4
  · obtain ⟨s, rfl⟩ := Int.eq_ofNat_of_zero_le hx.1
    have hs : s < 4 := by omega
    have hv := hV.r hs
    by_cases hT : B s 0 = -1
    · have h87 : M 87 s = 0 := (hB s hs).1.trans (if_pos hT)
      refine wp_iload_n dX8_tells_0 rfl rfl ?_
      refine wp_callS0 (d' := d - 1) cs_RX8_439 [(0, (s : Int))] [] rfl rfl (Nat.le_of_ble_eq_true rfl) dX8_tells_1 rfl (Nat.le_of_ble_eq_true rfl) (by omega) (loc1 := [(0, (s : Int))]) rfl ?_
      refine sp_isSh (by omega) (s : Int) (fun s1 => ?_) (fun s1 => ?_)
      · refine wp_if_eq (tgt := 27) dX8_tells_4 (by decide) (fun h => absurd h (by decide)) (fun _ => ?_)
        refine wp_aload_n dX8_tells_7 rfl rfl ?_
        refine wp_iload_n dX8_tells_8 rfl rfl ?_
        refine wp_callV0 (d' := d - 1) cv_RX8_97 69 rfl [(0, o)] [] rfl rfl (Or.inl ⟨_, _, rfl, by decide, rfl, by omega, by omega⟩) (by omega) (Nat.le_of_ble_eq_true rfl) dX8_tells_9 rfl (Nat.le_of_ble_eq_true rfl) (by omega) (loc1 := [(2, 69), (0, o)]) rfl ?_
        refine sp_isOne hn hI (by omega) o (fun o9 => ?_) (fun o9 => ?_)
        · refine wp_if_eq (tgt := 27) dX8_tells_12 (by decide) (fun h => absurd h (by decide)) (fun _ => ?_)
          refine wp_iload_n dX8_tells_15 rfl rfl ?_
          refine wp_i2l dX8_tells_16 ?_
          refine wp_lconst (v := 0) dX8_tells_17 (by decide) (by decide) ?_
          refine wp_ldc2 (x := 5) dX8_tells_18 kl_RX8_119 (by decide) (wr_l (by omega)) ?_
          refine wp_callS0 (d' := d - 1) cs_RX8_91 [(1, w), (1, 0), (1, 5)] [] rfl rfl (Nat.le_of_ble_eq_true rfl) dX8_tells_21 rfl (Nat.le_of_ble_eq_true rfl) (by omega) (loc1 := [(1, w), (9, 0), (1, 0), (9, 0), (1, 5), (9, 0)]) rfl ?_
          refine sp_in w 0 5 (fun i21 => ?_) (fun i21 => ?_)
          · refine wp_if_ne (tgt := 30) dX8_tells_24 (by decide) (fun _ => ?_) (fun h => absurd h (by decide))
            refine wp_aload_n dX8_tells_30 rfl rfl ?_
            refine wp_get 69 rfl fl_RX8_69 rfl ⟨by omega, by omega⟩ dX8_tells_31 rfl (v := 87) (sr_69_49 (M := M) hR) ?_
            refine wp_iload_n dX8_tells_34 rfl rfl ?_
            refine wp_zald 87 rfl rfl ⟨by omega, by omega⟩ ⟨by omega, by omega⟩ dX8_tells_35 (v := 0) (h87) ?_
            refine wp_if_ne (tgt := 42) dX8_tells_36 (by decide) (fun h => absurd h (by decide)) (fun _ => ?_)
            refine wp_bipush dX8_tells_39 (by decide) (by decide) ?_
            refine wp_iret rfl dX8_tells_41 ?_
            exact kN (by omega) hT
          · refine wp_if_ne (tgt := 30) dX8_tells_24 (by decide) (fun h => absurd h (by decide)) (fun _ => ?_)
            refine wp_bipush dX8_tells_27 (by decide) (by decide) ?_
            refine wp_iret rfl dX8_tells_29 ?_
            exact kB (Or.inl (by omega))
        · refine wp_if_eq (tgt := 27) dX8_tells_12 (by decide) (fun _ => ?_) (fun h => absurd h (by decide))
          refine wp_bipush dX8_tells_27 (by decide) (by decide) ?_
          refine wp_iret rfl dX8_tells_29 ?_
          exact kB (Or.inl (by omega))
      · refine wp_if_eq (tgt := 27) dX8_tells_4 (by decide) (fun _ => ?_) (fun h => absurd h (by decide))
        refine wp_bipush dX8_tells_27 (by decide) (by decide) ?_
        refine wp_iret rfl dX8_tells_29 ?_
        exact kB (Or.inl (by omega))
    · have h87 : M 87 s = 1 := (hB s hs).1.trans (if_neg hT)
      have h8 := (hB s hs).2 hT
      by_cases h30 : 0 ≤ o ∧ o < A.1 2 ∧ 0 ≤ w ∧ w ≤ 5 ∧ B s 1 ≤ 30
      · have ho : 0 ≤ o ∧ o < A.1 2 := by omega
        have hk := k (by omega) hT h30.2.2.2.2
        rcases (show w = 0 ∨ w = 1 ∨ w = 2 ∨ w = 3 ∨ w = 4 ∨ w = 5 by omega) with rfl | rfl | rfl | rfl | rfl | rfl
        · exact sp_tlsm_0 hn hI hd hB hV hs hT h30.2.2.2.2 o ho hk
        · exact sp_tlsm_1 hn hI hd hB hV hs hT h30.2.2.2.2 o ho hk
        · exact sp_tlsm_2 hn hI hd hB hV hs hT h30.2.2.2.2 o ho hk
        · exact sp_tlsm_3 hn hI hd hB hV hs hT h30.2.2.2.2 o ho hk
        · exact sp_tlsm_4 hn hI hd hB hV hs hT h30.2.2.2.2 o ho hk
        · exact sp_tlsm_5 hn hI hd hB hV hs hT h30.2.2.2.2 o ho hk
      · refine wp_iload_n dX8_tells_0 rfl rfl ?_
        refine wp_callS0 (d' := d - 1) cs_RX8_439 [(0, (s : Int))] [] rfl rfl (Nat.le_of_ble_eq_true rfl) dX8_tells_1 rfl (Nat.le_of_ble_eq_true rfl) (by omega) (loc1 := [(0, (s : Int))]) rfl ?_
        refine sp_isSh (by omega) (s : Int) (fun s1 => ?_) (fun s1 => ?_)
        · refine wp_if_eq (tgt := 27) dX8_tells_4 (by decide) (fun h => absurd h (by decide)) (fun _ => ?_)
          refine wp_aload_n dX8_tells_7 rfl rfl ?_
          refine wp_iload_n dX8_tells_8 rfl rfl ?_
          refine wp_callV0 (d' := d - 1) cv_RX8_97 69 rfl [(0, o)] [] rfl rfl (Or.inl ⟨_, _, rfl, by decide, rfl, by omega, by omega⟩) (by omega) (Nat.le_of_ble_eq_true rfl) dX8_tells_9 rfl (Nat.le_of_ble_eq_true rfl) (by omega) (loc1 := [(2, 69), (0, o)]) rfl ?_
          refine sp_isOne hn hI (by omega) o (fun o9 => ?_) (fun o9 => ?_)
          · refine wp_if_eq (tgt := 27) dX8_tells_12 (by decide) (fun h => absurd h (by decide)) (fun _ => ?_)
            refine wp_iload_n dX8_tells_15 rfl rfl ?_
            refine wp_i2l dX8_tells_16 ?_
            refine wp_lconst (v := 0) dX8_tells_17 (by decide) (by decide) ?_
            refine wp_ldc2 (x := 5) dX8_tells_18 kl_RX8_119 (by decide) (wr_l (by omega)) ?_
            refine wp_callS0 (d' := d - 1) cs_RX8_91 [(1, w), (1, 0), (1, 5)] [] rfl rfl (Nat.le_of_ble_eq_true rfl) dX8_tells_21 rfl (Nat.le_of_ble_eq_true rfl) (by omega) (loc1 := [(1, w), (9, 0), (1, 0), (9, 0), (1, 5), (9, 0)]) rfl ?_
            refine sp_in w 0 5 (fun i21 => ?_) (fun i21 => ?_)
            · refine wp_if_ne (tgt := 30) dX8_tells_24 (by decide) (fun _ => ?_) (fun h => absurd h (by decide))
              refine wp_aload_n dX8_tells_30 rfl rfl ?_
              refine wp_get 69 rfl fl_RX8_69 rfl ⟨by omega, by omega⟩ dX8_tells_31 rfl (v := 87) (sr_69_49 (M := M) hR) ?_
              refine wp_iload_n dX8_tells_34 rfl rfl ?_
              refine wp_zald 87 rfl rfl ⟨by omega, by omega⟩ ⟨by omega, by omega⟩ dX8_tells_35 (v := 1) (h87) ?_
              refine wp_if_ne (tgt := 42) dX8_tells_36 (by decide) (fun _ => ?_) (fun h => absurd h (by decide))
              refine wp_aload_n dX8_tells_42 rfl rfl ?_
              refine wp_get 69 rfl fl_RX8_75 rfl ⟨by omega, by omega⟩ dX8_tells_43 rfl (v := 89) (sr_69_51 (M := M) hR) ?_
              refine wp_iload_n dX8_tells_46 rfl rfl ?_
              refine wp_iald 89 rfl rfl ⟨by omega, by omega⟩ ⟨by omega, by omega⟩ dX8_tells_47 (v := (B s 1)) (h8.2.1) ?_
              refine wp_bipush dX8_tells_48 (by decide) (by decide) ?_
              refine wp_icmp_le (tgt := 56) dX8_tells_50 (by decide) (fun h50 => ?_) (fun h50 => ?_)
              · exfalso
                apply h30
                omega
              · refine wp_bipush dX8_tells_53 (by decide) (by decide) ?_
                refine wp_iret rfl dX8_tells_55 ?_
                exact kB (Or.inr ⟨by omega, hT, show 30 < B s 1 by omega⟩)
            · refine wp_if_ne (tgt := 30) dX8_tells_24 (by decide) (fun h => absurd h (by decide)) (fun _ => ?_)
              refine wp_bipush dX8_tells_27 (by decide) (by decide) ?_
              refine wp_iret rfl dX8_tells_29 ?_
              exact kB (Or.inl (by omega))
          · refine wp_if_eq (tgt := 27) dX8_tells_12 (by decide) (fun _ => ?_) (fun h => absurd h (by decide))
            refine wp_bipush dX8_tells_27 (by decide) (by decide) ?_
            refine wp_iret rfl dX8_tells_29 ?_
            exact kB (Or.inl (by omega))
        · refine wp_if_eq (tgt := 27) dX8_tells_4 (by decide) (fun _ => ?_) (fun h => absurd h (by decide))
          refine wp_bipush dX8_tells_27 (by decide) (by decide) ?_
          refine wp_iret rfl dX8_tells_29 ?_
          exact kB (Or.inl (by omega))
  · refine wp_iload_n dX8_tells_0 rfl rfl ?_
    refine wp_callS0 (d' := d - 1) cs_RX8_439 [(0, x)] [] rfl rfl (Nat.le_of_ble_eq_true rfl) dX8_tells_1 rfl (Nat.le_of_ble_eq_true rfl) (by omega) (loc1 := [(0, x)]) rfl ?_
    refine sp_isSh (by omega) x (fun h => absurd h hx) (fun _ => ?_)
    refine wp_if_eq (tgt := 27) dX8_tells_4 (by decide) (fun _ => ?_) (fun h => absurd h (by decide))
    refine wp_bipush dX8_tells_27 (by decide) (by decide) ?_
    refine wp_iret rfl dX8_tells_29 ?_
    exact kB (Or.inl (by omega))
def VMk (i j : Nat) : Prop := i = 85 ∨ i = 86 ∨ (i = 69 ∧ 45 ≤ j ∧ j ≤ 48)
theorem VMk.sr {M M' : Mm} (h : Fr VMk M M') (hR : SR M) : SR M' := hR.frL h (by unfold VMk; decide +kernel)
theorem VMk.n : ∀ i j, VMk i j → VMn i j := by
  intro i j h
  unfold VMk at h
  unfold VMn
  omega
/-- the image, as the model keeps it -/
def KPm (M : Mm) (K : Ls) : Prop := M 69 45 = K.1 3 ∧ M 69 46 = K.1 2 ∧ M 69 47 = K.1 0 ∧ M 69 48 = K.1 1 ∧ (∀ q : Nat, (q : Int) < K.1 3 → M 85 q = K.2 5 q) ∧ ∀ r i : Nat, r < 4 → (i : Int) < K.1 2 → M 86 (4 * i + r) = K.2 (r + 1) i
theorem KPm.fr {M M' : Mm} {K : Ls} {V : Nat → Nat → Prop} (h : KPm M K) (f : Fr V M M') (hv : ∀ i j, V i j → ¬ VMk i j) : KPm M' K := by
  have e : ∀ i j, VMk i j → M' i j = M i j := fun i j q => f i j (fun c => hv i j c q)
  exact ⟨(e _ _ (by unfold VMk; omega)).trans h.1, (e _ _ (by unfold VMk; omega)).trans h.2.1, (e _ _ (by unfold VMk; omega)).trans h.2.2.1, (e _ _ (by unfold VMk; omega)).trans h.2.2.2.1, fun q hq => (e _ _ (by unfold VMk; omega)).trans (h.2.2.2.2.1 q hq), fun r i hr hi => (e _ _ (by unfold VMk; omega)).trans (h.2.2.2.2.2 r i hr hi)⟩
set_option maxRecDepth 20000 in
set_option maxHeartbeats 4000000 in
theorem sp_img0 {l : Launch} {g : Gw} {d n : Nat} {M : Mm} {Q : Option Wd → Mm → Prop} (hn : 90 ≤ n) (hR : SR M) (k : ∀ M', Fr VMk M M' → (∀ j : Nat, j < 5 → M' 85 j = M 75 j) → (∀ j : Nat, j < 20 → M' 86 j = M 74 j) → M' 69 45 = M 69 12 → M' 69 46 = M 69 10 → M' 69 47 = M 69 7 → M' 69 48 = M 69 4 → Q (some (0, M 69 10)) M') : Wp l g d 0 0 n m_X8_image 0 [] [(2, 69), (9, 0)] M Q := by
  refine wp_iconst dX8_image_0 (by decide) ?_
  refine wp_istore_n (loc' := [(2, 69), (0, 0)]) dX8_image_1 rfl (Nat.le_of_ble_eq_true rfl) rfl ?_
  refine wp_iload_n dX8_image_2 rfl rfl ?_
  refine wp_iconst dX8_image_3 (by decide) ?_
  refine wp_icmp_ge (tgt := 25) dX8_image_4 (by decide) (fun h => absurd h (by decide)) (fun _ => ?_)
  refine wp_aload_n dX8_image_7 rfl rfl ?_
  refine wp_get 69 rfl fl_RX8_60 rfl ⟨by omega, by omega⟩ dX8_image_8 rfl (v := 85) (sr_69_43 (M := M) hR) ?_
  refine wp_iload_n dX8_image_11 rfl rfl ?_
  refine wp_aload_n dX8_image_12 rfl rfl ?_
  refine wp_get 69 rfl fl_RX8_29 rfl ⟨by omega, by omega⟩ dX8_image_13 rfl (v := 75) (sr_69_11 (M := M) hR) ?_
  refine wp_iload_n dX8_image_16 rfl rfl ?_
  refine wp_iald 75 rfl rfl ⟨by omega, by omega⟩ ⟨by omega, by omega⟩ dX8_image_17 (v := (M 75 0)) (rfl) ?_
  refine wp_iast 85 rfl rfl ⟨by omega, by omega⟩ ⟨by omega, by omega⟩ dX8_image_18 (jn := 0) rfl ?_
  refine wp_iinc (loc' := [(2, 69), (0, 1)]) dX8_image_19 rfl (by omega) rfl ?_
  refine wp_goto (tgt := 2) dX8_image_22 (by decide) ?_
  refine wp_iload_n dX8_image_2 rfl rfl ?_
  refine wp_iconst dX8_image_3 (by decide) ?_
  refine wp_icmp_ge (tgt := 25) dX8_image_4 (by decide) (fun h => absurd h (by decide)) (fun _ => ?_)
  refine wp_aload_n dX8_image_7 rfl rfl ?_
  refine wp_get 69 rfl fl_RX8_60 rfl ⟨by omega, by omega⟩ dX8_image_8 rfl (v := 85) (sr_69_43 (M := M) hR) ?_
  refine wp_iload_n dX8_image_11 rfl rfl ?_
  refine wp_aload_n dX8_image_12 rfl rfl ?_
  refine wp_get 69 rfl fl_RX8_29 rfl ⟨by omega, by omega⟩ dX8_image_13 rfl (v := 75) (sr_69_11 (M := M) hR) ?_
  refine wp_iload_n dX8_image_16 rfl rfl ?_
  refine wp_iald 75 rfl rfl ⟨by omega, by omega⟩ ⟨by omega, by omega⟩ dX8_image_17 (v := (M 75 1)) (rfl) ?_
  refine wp_iast 85 rfl rfl ⟨by omega, by omega⟩ ⟨by omega, by omega⟩ dX8_image_18 (jn := 1) rfl ?_
  refine wp_iinc (loc' := [(2, 69), (0, 2)]) dX8_image_19 rfl (by omega) rfl ?_
  refine wp_goto (tgt := 2) dX8_image_22 (by decide) ?_
  refine wp_iload_n dX8_image_2 rfl rfl ?_
  refine wp_iconst dX8_image_3 (by decide) ?_
  refine wp_icmp_ge (tgt := 25) dX8_image_4 (by decide) (fun h => absurd h (by decide)) (fun _ => ?_)
  refine wp_aload_n dX8_image_7 rfl rfl ?_
  refine wp_get 69 rfl fl_RX8_60 rfl ⟨by omega, by omega⟩ dX8_image_8 rfl (v := 85) (sr_69_43 (M := M) hR) ?_
  refine wp_iload_n dX8_image_11 rfl rfl ?_
  refine wp_aload_n dX8_image_12 rfl rfl ?_
  refine wp_get 69 rfl fl_RX8_29 rfl ⟨by omega, by omega⟩ dX8_image_13 rfl (v := 75) (sr_69_11 (M := M) hR) ?_
  refine wp_iload_n dX8_image_16 rfl rfl ?_
  refine wp_iald 75 rfl rfl ⟨by omega, by omega⟩ ⟨by omega, by omega⟩ dX8_image_17 (v := (M 75 2)) (rfl) ?_
  refine wp_iast 85 rfl rfl ⟨by omega, by omega⟩ ⟨by omega, by omega⟩ dX8_image_18 (jn := 2) rfl ?_
  refine wp_iinc (loc' := [(2, 69), (0, 3)]) dX8_image_19 rfl (by omega) rfl ?_
  refine wp_goto (tgt := 2) dX8_image_22 (by decide) ?_
  refine wp_iload_n dX8_image_2 rfl rfl ?_
  refine wp_iconst dX8_image_3 (by decide) ?_
  refine wp_icmp_ge (tgt := 25) dX8_image_4 (by decide) (fun h => absurd h (by decide)) (fun _ => ?_)
  refine wp_aload_n dX8_image_7 rfl rfl ?_
  refine wp_get 69 rfl fl_RX8_60 rfl ⟨by omega, by omega⟩ dX8_image_8 rfl (v := 85) (sr_69_43 (M := M) hR) ?_
  refine wp_iload_n dX8_image_11 rfl rfl ?_
  refine wp_aload_n dX8_image_12 rfl rfl ?_
  refine wp_get 69 rfl fl_RX8_29 rfl ⟨by omega, by omega⟩ dX8_image_13 rfl (v := 75) (sr_69_11 (M := M) hR) ?_
  refine wp_iload_n dX8_image_16 rfl rfl ?_
  refine wp_iald 75 rfl rfl ⟨by omega, by omega⟩ ⟨by omega, by omega⟩ dX8_image_17 (v := (M 75 3)) (rfl) ?_
  refine wp_iast 85 rfl rfl ⟨by omega, by omega⟩ ⟨by omega, by omega⟩ dX8_image_18 (jn := 3) rfl ?_
  refine wp_iinc (loc' := [(2, 69), (0, 4)]) dX8_image_19 rfl (by omega) rfl ?_
  refine wp_goto (tgt := 2) dX8_image_22 (by decide) ?_
  refine wp_iload_n dX8_image_2 rfl rfl ?_
  refine wp_iconst dX8_image_3 (by decide) ?_
  refine wp_icmp_ge (tgt := 25) dX8_image_4 (by decide) (fun h => absurd h (by decide)) (fun _ => ?_)
  refine wp_aload_n dX8_image_7 rfl rfl ?_
  refine wp_get 69 rfl fl_RX8_60 rfl ⟨by omega, by omega⟩ dX8_image_8 rfl (v := 85) (sr_69_43 (M := M) hR) ?_
  refine wp_iload_n dX8_image_11 rfl rfl ?_
  refine wp_aload_n dX8_image_12 rfl rfl ?_
  refine wp_get 69 rfl fl_RX8_29 rfl ⟨by omega, by omega⟩ dX8_image_13 rfl (v := 75) (sr_69_11 (M := M) hR) ?_
  refine wp_iload_n dX8_image_16 rfl rfl ?_
  refine wp_iald 75 rfl rfl ⟨by omega, by omega⟩ ⟨by omega, by omega⟩ dX8_image_17 (v := (M 75 4)) (rfl) ?_
  refine wp_iast 85 rfl rfl ⟨by omega, by omega⟩ ⟨by omega, by omega⟩ dX8_image_18 (jn := 4) rfl ?_
  refine wp_iinc (loc' := [(2, 69), (0, 5)]) dX8_image_19 rfl (by omega) rfl ?_
  refine wp_goto (tgt := 2) dX8_image_22 (by decide) ?_
  refine wp_iload_n dX8_image_2 rfl rfl ?_
  refine wp_iconst dX8_image_3 (by decide) ?_
  refine wp_icmp_ge (tgt := 25) dX8_image_4 (by decide) (fun _ => ?_) (fun h => absurd h (by decide))
  refine wp_iconst dX8_image_25 (by decide) ?_
  refine wp_istore_n (loc' := [(2, 69), (0, 0)]) dX8_image_26 rfl (Nat.le_of_ble_eq_true rfl) rfl ?_
  refine wp_iload_n dX8_image_27 rfl rfl ?_
  refine wp_bipush dX8_image_28 (by decide) (by decide) ?_
  refine wp_icmp_ge (tgt := 51) dX8_image_30 (by decide) (fun h => absurd h (by decide)) (fun _ => ?_)
  refine wp_aload_n dX8_image_33 rfl rfl ?_
  refine wp_get 69 rfl fl_RX8_63 rfl ⟨by omega, by omega⟩ dX8_image_34 rfl (v := 86) (sr_69_44 (M := M) hR) ?_
  refine wp_iload_n dX8_image_37 rfl rfl ?_
  refine wp_aload_n dX8_image_38 rfl rfl ?_
  refine wp_get 69 rfl fl_RX8_26 rfl ⟨by omega, by omega⟩ dX8_image_39 rfl (v := 74) (sr_69_9 (M := M) hR) ?_
  refine wp_iload_n dX8_image_42 rfl rfl ?_
  refine wp_iald 74 rfl rfl ⟨by omega, by omega⟩ ⟨by omega, by omega⟩ dX8_image_43 (v := (M 74 0)) (rfl) ?_
  refine wp_iast 86 rfl rfl ⟨by omega, by omega⟩ ⟨by omega, by omega⟩ dX8_image_44 (jn := 0) rfl ?_
  refine wp_iinc (loc' := [(2, 69), (0, 1)]) dX8_image_45 rfl (by omega) rfl ?_
  refine wp_goto (tgt := 27) dX8_image_48 (by decide) ?_
  refine wp_iload_n dX8_image_27 rfl rfl ?_
  refine wp_bipush dX8_image_28 (by decide) (by decide) ?_
  refine wp_icmp_ge (tgt := 51) dX8_image_30 (by decide) (fun h => absurd h (by decide)) (fun _ => ?_)
  refine wp_aload_n dX8_image_33 rfl rfl ?_
  refine wp_get 69 rfl fl_RX8_63 rfl ⟨by omega, by omega⟩ dX8_image_34 rfl (v := 86) (sr_69_44 (M := M) hR) ?_
  refine wp_iload_n dX8_image_37 rfl rfl ?_
  refine wp_aload_n dX8_image_38 rfl rfl ?_
  refine wp_get 69 rfl fl_RX8_26 rfl ⟨by omega, by omega⟩ dX8_image_39 rfl (v := 74) (sr_69_9 (M := M) hR) ?_
  refine wp_iload_n dX8_image_42 rfl rfl ?_
  refine wp_iald 74 rfl rfl ⟨by omega, by omega⟩ ⟨by omega, by omega⟩ dX8_image_43 (v := (M 74 1)) (rfl) ?_
  refine wp_iast 86 rfl rfl ⟨by omega, by omega⟩ ⟨by omega, by omega⟩ dX8_image_44 (jn := 1) rfl ?_
  refine wp_iinc (loc' := [(2, 69), (0, 2)]) dX8_image_45 rfl (by omega) rfl ?_
  refine wp_goto (tgt := 27) dX8_image_48 (by decide) ?_
  refine wp_iload_n dX8_image_27 rfl rfl ?_
  refine wp_bipush dX8_image_28 (by decide) (by decide) ?_
  refine wp_icmp_ge (tgt := 51) dX8_image_30 (by decide) (fun h => absurd h (by decide)) (fun _ => ?_)
  refine wp_aload_n dX8_image_33 rfl rfl ?_
  refine wp_get 69 rfl fl_RX8_63 rfl ⟨by omega, by omega⟩ dX8_image_34 rfl (v := 86) (sr_69_44 (M := M) hR) ?_
  refine wp_iload_n dX8_image_37 rfl rfl ?_
  refine wp_aload_n dX8_image_38 rfl rfl ?_
  refine wp_get 69 rfl fl_RX8_26 rfl ⟨by omega, by omega⟩ dX8_image_39 rfl (v := 74) (sr_69_9 (M := M) hR) ?_
  refine wp_iload_n dX8_image_42 rfl rfl ?_
  refine wp_iald 74 rfl rfl ⟨by omega, by omega⟩ ⟨by omega, by omega⟩ dX8_image_43 (v := (M 74 2)) (rfl) ?_
  refine wp_iast 86 rfl rfl ⟨by omega, by omega⟩ ⟨by omega, by omega⟩ dX8_image_44 (jn := 2) rfl ?_
  refine wp_iinc (loc' := [(2, 69), (0, 3)]) dX8_image_45 rfl (by omega) rfl ?_
  refine wp_goto (tgt := 27) dX8_image_48 (by decide) ?_
  refine wp_iload_n dX8_image_27 rfl rfl ?_
  refine wp_bipush dX8_image_28 (by decide) (by decide) ?_
  refine wp_icmp_ge (tgt := 51) dX8_image_30 (by decide) (fun h => absurd h (by decide)) (fun _ => ?_)
  refine wp_aload_n dX8_image_33 rfl rfl ?_
  refine wp_get 69 rfl fl_RX8_63 rfl ⟨by omega, by omega⟩ dX8_image_34 rfl (v := 86) (sr_69_44 (M := M) hR) ?_
  refine wp_iload_n dX8_image_37 rfl rfl ?_
  refine wp_aload_n dX8_image_38 rfl rfl ?_
  refine wp_get 69 rfl fl_RX8_26 rfl ⟨by omega, by omega⟩ dX8_image_39 rfl (v := 74) (sr_69_9 (M := M) hR) ?_
  refine wp_iload_n dX8_image_42 rfl rfl ?_
  refine wp_iald 74 rfl rfl ⟨by omega, by omega⟩ ⟨by omega, by omega⟩ dX8_image_43 (v := (M 74 3)) (rfl) ?_
  refine wp_iast 86 rfl rfl ⟨by omega, by omega⟩ ⟨by omega, by omega⟩ dX8_image_44 (jn := 3) rfl ?_
  refine wp_iinc (loc' := [(2, 69), (0, 4)]) dX8_image_45 rfl (by omega) rfl ?_
  refine wp_goto (tgt := 27) dX8_image_48 (by decide) ?_
  refine wp_iload_n dX8_image_27 rfl rfl ?_
  refine wp_bipush dX8_image_28 (by decide) (by decide) ?_
  refine wp_icmp_ge (tgt := 51) dX8_image_30 (by decide) (fun h => absurd h (by decide)) (fun _ => ?_)
  refine wp_aload_n dX8_image_33 rfl rfl ?_
  refine wp_get 69 rfl fl_RX8_63 rfl ⟨by omega, by omega⟩ dX8_image_34 rfl (v := 86) (sr_69_44 (M := M) hR) ?_
  refine wp_iload_n dX8_image_37 rfl rfl ?_
  refine wp_aload_n dX8_image_38 rfl rfl ?_
  refine wp_get 69 rfl fl_RX8_26 rfl ⟨by omega, by omega⟩ dX8_image_39 rfl (v := 74) (sr_69_9 (M := M) hR) ?_
  refine wp_iload_n dX8_image_42 rfl rfl ?_
  refine wp_iald 74 rfl rfl ⟨by omega, by omega⟩ ⟨by omega, by omega⟩ dX8_image_43 (v := (M 74 4)) (rfl) ?_
  refine wp_iast 86 rfl rfl ⟨by omega, by omega⟩ ⟨by omega, by omega⟩ dX8_image_44 (jn := 4) rfl ?_
  refine wp_iinc (loc' := [(2, 69), (0, 5)]) dX8_image_45 rfl (by omega) rfl ?_
  refine wp_goto (tgt := 27) dX8_image_48 (by decide) ?_
  refine wp_iload_n dX8_image_27 rfl rfl ?_
  refine wp_bipush dX8_image_28 (by decide) (by decide) ?_
  refine wp_icmp_ge (tgt := 51) dX8_image_30 (by decide) (fun h => absurd h (by decide)) (fun _ => ?_)
  refine wp_aload_n dX8_image_33 rfl rfl ?_
  refine wp_get 69 rfl fl_RX8_63 rfl ⟨by omega, by omega⟩ dX8_image_34 rfl (v := 86) (sr_69_44 (M := M) hR) ?_
  refine wp_iload_n dX8_image_37 rfl rfl ?_
  refine wp_aload_n dX8_image_38 rfl rfl ?_
  refine wp_get 69 rfl fl_RX8_26 rfl ⟨by omega, by omega⟩ dX8_image_39 rfl (v := 74) (sr_69_9 (M := M) hR) ?_
  refine wp_iload_n dX8_image_42 rfl rfl ?_
  refine wp_iald 74 rfl rfl ⟨by omega, by omega⟩ ⟨by omega, by omega⟩ dX8_image_43 (v := (M 74 5)) (rfl) ?_
  refine wp_iast 86 rfl rfl ⟨by omega, by omega⟩ ⟨by omega, by omega⟩ dX8_image_44 (jn := 5) rfl ?_
  refine wp_iinc (loc' := [(2, 69), (0, 6)]) dX8_image_45 rfl (by omega) rfl ?_
  refine wp_goto (tgt := 27) dX8_image_48 (by decide) ?_
  refine wp_iload_n dX8_image_27 rfl rfl ?_
  refine wp_bipush dX8_image_28 (by decide) (by decide) ?_
  refine wp_icmp_ge (tgt := 51) dX8_image_30 (by decide) (fun h => absurd h (by decide)) (fun _ => ?_)
  refine wp_aload_n dX8_image_33 rfl rfl ?_
  refine wp_get 69 rfl fl_RX8_63 rfl ⟨by omega, by omega⟩ dX8_image_34 rfl (v := 86) (sr_69_44 (M := M) hR) ?_
  refine wp_iload_n dX8_image_37 rfl rfl ?_
  refine wp_aload_n dX8_image_38 rfl rfl ?_
  refine wp_get 69 rfl fl_RX8_26 rfl ⟨by omega, by omega⟩ dX8_image_39 rfl (v := 74) (sr_69_9 (M := M) hR) ?_
  refine wp_iload_n dX8_image_42 rfl rfl ?_
  refine wp_iald 74 rfl rfl ⟨by omega, by omega⟩ ⟨by omega, by omega⟩ dX8_image_43 (v := (M 74 6)) (rfl) ?_
  refine wp_iast 86 rfl rfl ⟨by omega, by omega⟩ ⟨by omega, by omega⟩ dX8_image_44 (jn := 6) rfl ?_
  refine wp_iinc (loc' := [(2, 69), (0, 7)]) dX8_image_45 rfl (by omega) rfl ?_
  refine wp_goto (tgt := 27) dX8_image_48 (by decide) ?_
  refine wp_iload_n dX8_image_27 rfl rfl ?_
  refine wp_bipush dX8_image_28 (by decide) (by decide) ?_
  refine wp_icmp_ge (tgt := 51) dX8_image_30 (by decide) (fun h => absurd h (by decide)) (fun _ => ?_)
  refine wp_aload_n dX8_image_33 rfl rfl ?_
  refine wp_get 69 rfl fl_RX8_63 rfl ⟨by omega, by omega⟩ dX8_image_34 rfl (v := 86) (sr_69_44 (M := M) hR) ?_
  refine wp_iload_n dX8_image_37 rfl rfl ?_
  refine wp_aload_n dX8_image_38 rfl rfl ?_
  refine wp_get 69 rfl fl_RX8_26 rfl ⟨by omega, by omega⟩ dX8_image_39 rfl (v := 74) (sr_69_9 (M := M) hR) ?_
  refine wp_iload_n dX8_image_42 rfl rfl ?_
  refine wp_iald 74 rfl rfl ⟨by omega, by omega⟩ ⟨by omega, by omega⟩ dX8_image_43 (v := (M 74 7)) (rfl) ?_
  refine wp_iast 86 rfl rfl ⟨by omega, by omega⟩ ⟨by omega, by omega⟩ dX8_image_44 (jn := 7) rfl ?_
  refine wp_iinc (loc' := [(2, 69), (0, 8)]) dX8_image_45 rfl (by omega) rfl ?_
  refine wp_goto (tgt := 27) dX8_image_48 (by decide) ?_
  refine wp_iload_n dX8_image_27 rfl rfl ?_
  refine wp_bipush dX8_image_28 (by decide) (by decide) ?_
  refine wp_icmp_ge (tgt := 51) dX8_image_30 (by decide) (fun h => absurd h (by decide)) (fun _ => ?_)
  refine wp_aload_n dX8_image_33 rfl rfl ?_
  refine wp_get 69 rfl fl_RX8_63 rfl ⟨by omega, by omega⟩ dX8_image_34 rfl (v := 86) (sr_69_44 (M := M) hR) ?_
  refine wp_iload_n dX8_image_37 rfl rfl ?_
  refine wp_aload_n dX8_image_38 rfl rfl ?_
  refine wp_get 69 rfl fl_RX8_26 rfl ⟨by omega, by omega⟩ dX8_image_39 rfl (v := 74) (sr_69_9 (M := M) hR) ?_
  refine wp_iload_n dX8_image_42 rfl rfl ?_
  refine wp_iald 74 rfl rfl ⟨by omega, by omega⟩ ⟨by omega, by omega⟩ dX8_image_43 (v := (M 74 8)) (rfl) ?_
  refine wp_iast 86 rfl rfl ⟨by omega, by omega⟩ ⟨by omega, by omega⟩ dX8_image_44 (jn := 8) rfl ?_
  refine wp_iinc (loc' := [(2, 69), (0, 9)]) dX8_image_45 rfl (by omega) rfl ?_
  refine wp_goto (tgt := 27) dX8_image_48 (by decide) ?_
  refine wp_iload_n dX8_image_27 rfl rfl ?_
  refine wp_bipush dX8_image_28 (by decide) (by decide) ?_
  refine wp_icmp_ge (tgt := 51) dX8_image_30 (by decide) (fun h => absurd h (by decide)) (fun _ => ?_)
  refine wp_aload_n dX8_image_33 rfl rfl ?_
  refine wp_get 69 rfl fl_RX8_63 rfl ⟨by omega, by omega⟩ dX8_image_34 rfl (v := 86) (sr_69_44 (M := M) hR) ?_
  refine wp_iload_n dX8_image_37 rfl rfl ?_
  refine wp_aload_n dX8_image_38 rfl rfl ?_
  refine wp_get 69 rfl fl_RX8_26 rfl ⟨by omega, by omega⟩ dX8_image_39 rfl (v := 74) (sr_69_9 (M := M) hR) ?_
  refine wp_iload_n dX8_image_42 rfl rfl ?_
  refine wp_iald 74 rfl rfl ⟨by omega, by omega⟩ ⟨by omega, by omega⟩ dX8_image_43 (v := (M 74 9)) (rfl) ?_
  refine wp_iast 86 rfl rfl ⟨by omega, by omega⟩ ⟨by omega, by omega⟩ dX8_image_44 (jn := 9) rfl ?_
  refine wp_iinc (loc' := [(2, 69), (0, 10)]) dX8_image_45 rfl (by omega) rfl ?_
  refine wp_goto (tgt := 27) dX8_image_48 (by decide) ?_
  refine wp_iload_n dX8_image_27 rfl rfl ?_
  refine wp_bipush dX8_image_28 (by decide) (by decide) ?_
  refine wp_icmp_ge (tgt := 51) dX8_image_30 (by decide) (fun h => absurd h (by decide)) (fun _ => ?_)
  refine wp_aload_n dX8_image_33 rfl rfl ?_
  refine wp_get 69 rfl fl_RX8_63 rfl ⟨by omega, by omega⟩ dX8_image_34 rfl (v := 86) (sr_69_44 (M := M) hR) ?_
  refine wp_iload_n dX8_image_37 rfl rfl ?_
  refine wp_aload_n dX8_image_38 rfl rfl ?_
  refine wp_get 69 rfl fl_RX8_26 rfl ⟨by omega, by omega⟩ dX8_image_39 rfl (v := 74) (sr_69_9 (M := M) hR) ?_
  refine wp_iload_n dX8_image_42 rfl rfl ?_
  refine wp_iald 74 rfl rfl ⟨by omega, by omega⟩ ⟨by omega, by omega⟩ dX8_image_43 (v := (M 74 10)) (rfl) ?_
  refine wp_iast 86 rfl rfl ⟨by omega, by omega⟩ ⟨by omega, by omega⟩ dX8_image_44 (jn := 10) rfl ?_
  refine wp_iinc (loc' := [(2, 69), (0, 11)]) dX8_image_45 rfl (by omega) rfl ?_
  refine wp_goto (tgt := 27) dX8_image_48 (by decide) ?_
  refine wp_iload_n dX8_image_27 rfl rfl ?_
  refine wp_bipush dX8_image_28 (by decide) (by decide) ?_
  refine wp_icmp_ge (tgt := 51) dX8_image_30 (by decide) (fun h => absurd h (by decide)) (fun _ => ?_)
  refine wp_aload_n dX8_image_33 rfl rfl ?_
  refine wp_get 69 rfl fl_RX8_63 rfl ⟨by omega, by omega⟩ dX8_image_34 rfl (v := 86) (sr_69_44 (M := M) hR) ?_
  refine wp_iload_n dX8_image_37 rfl rfl ?_
  refine wp_aload_n dX8_image_38 rfl rfl ?_
  refine wp_get 69 rfl fl_RX8_26 rfl ⟨by omega, by omega⟩ dX8_image_39 rfl (v := 74) (sr_69_9 (M := M) hR) ?_
  refine wp_iload_n dX8_image_42 rfl rfl ?_
  refine wp_iald 74 rfl rfl ⟨by omega, by omega⟩ ⟨by omega, by omega⟩ dX8_image_43 (v := (M 74 11)) (rfl) ?_
  refine wp_iast 86 rfl rfl ⟨by omega, by omega⟩ ⟨by omega, by omega⟩ dX8_image_44 (jn := 11) rfl ?_
  refine wp_iinc (loc' := [(2, 69), (0, 12)]) dX8_image_45 rfl (by omega) rfl ?_
  refine wp_goto (tgt := 27) dX8_image_48 (by decide) ?_
  refine wp_iload_n dX8_image_27 rfl rfl ?_
  refine wp_bipush dX8_image_28 (by decide) (by decide) ?_
  refine wp_icmp_ge (tgt := 51) dX8_image_30 (by decide) (fun h => absurd h (by decide)) (fun _ => ?_)
  refine wp_aload_n dX8_image_33 rfl rfl ?_
  refine wp_get 69 rfl fl_RX8_63 rfl ⟨by omega, by omega⟩ dX8_image_34 rfl (v := 86) (sr_69_44 (M := M) hR) ?_
  refine wp_iload_n dX8_image_37 rfl rfl ?_
  refine wp_aload_n dX8_image_38 rfl rfl ?_
  refine wp_get 69 rfl fl_RX8_26 rfl ⟨by omega, by omega⟩ dX8_image_39 rfl (v := 74) (sr_69_9 (M := M) hR) ?_
  refine wp_iload_n dX8_image_42 rfl rfl ?_
  refine wp_iald 74 rfl rfl ⟨by omega, by omega⟩ ⟨by omega, by omega⟩ dX8_image_43 (v := (M 74 12)) (rfl) ?_
  refine wp_iast 86 rfl rfl ⟨by omega, by omega⟩ ⟨by omega, by omega⟩ dX8_image_44 (jn := 12) rfl ?_
  refine wp_iinc (loc' := [(2, 69), (0, 13)]) dX8_image_45 rfl (by omega) rfl ?_
  refine wp_goto (tgt := 27) dX8_image_48 (by decide) ?_
  refine wp_iload_n dX8_image_27 rfl rfl ?_
  refine wp_bipush dX8_image_28 (by decide) (by decide) ?_
  refine wp_icmp_ge (tgt := 51) dX8_image_30 (by decide) (fun h => absurd h (by decide)) (fun _ => ?_)
  refine wp_aload_n dX8_image_33 rfl rfl ?_
  refine wp_get 69 rfl fl_RX8_63 rfl ⟨by omega, by omega⟩ dX8_image_34 rfl (v := 86) (sr_69_44 (M := M) hR) ?_
  refine wp_iload_n dX8_image_37 rfl rfl ?_
  refine wp_aload_n dX8_image_38 rfl rfl ?_
  refine wp_get 69 rfl fl_RX8_26 rfl ⟨by omega, by omega⟩ dX8_image_39 rfl (v := 74) (sr_69_9 (M := M) hR) ?_
  refine wp_iload_n dX8_image_42 rfl rfl ?_
  refine wp_iald 74 rfl rfl ⟨by omega, by omega⟩ ⟨by omega, by omega⟩ dX8_image_43 (v := (M 74 13)) (rfl) ?_
  refine wp_iast 86 rfl rfl ⟨by omega, by omega⟩ ⟨by omega, by omega⟩ dX8_image_44 (jn := 13) rfl ?_
  refine wp_iinc (loc' := [(2, 69), (0, 14)]) dX8_image_45 rfl (by omega) rfl ?_
  refine wp_goto (tgt := 27) dX8_image_48 (by decide) ?_
  refine wp_iload_n dX8_image_27 rfl rfl ?_
  refine wp_bipush dX8_image_28 (by decide) (by decide) ?_
  refine wp_icmp_ge (tgt := 51) dX8_image_30 (by decide) (fun h => absurd h (by decide)) (fun _ => ?_)
  refine wp_aload_n dX8_image_33 rfl rfl ?_
  refine wp_get 69 rfl fl_RX8_63 rfl ⟨by omega, by omega⟩ dX8_image_34 rfl (v := 86) (sr_69_44 (M := M) hR) ?_
  refine wp_iload_n dX8_image_37 rfl rfl ?_
  refine wp_aload_n dX8_image_38 rfl rfl ?_
  refine wp_get 69 rfl fl_RX8_26 rfl ⟨by omega, by omega⟩ dX8_image_39 rfl (v := 74) (sr_69_9 (M := M) hR) ?_
  refine wp_iload_n dX8_image_42 rfl rfl ?_
  refine wp_iald 74 rfl rfl ⟨by omega, by omega⟩ ⟨by omega, by omega⟩ dX8_image_43 (v := (M 74 14)) (rfl) ?_
  refine wp_iast 86 rfl rfl ⟨by omega, by omega⟩ ⟨by omega, by omega⟩ dX8_image_44 (jn := 14) rfl ?_
  refine wp_iinc (loc' := [(2, 69), (0, 15)]) dX8_image_45 rfl (by omega) rfl ?_
  refine wp_goto (tgt := 27) dX8_image_48 (by decide) ?_
  refine wp_iload_n dX8_image_27 rfl rfl ?_
  refine wp_bipush dX8_image_28 (by decide) (by decide) ?_
  refine wp_icmp_ge (tgt := 51) dX8_image_30 (by decide) (fun h => absurd h (by decide)) (fun _ => ?_)
  refine wp_aload_n dX8_image_33 rfl rfl ?_
  refine wp_get 69 rfl fl_RX8_63 rfl ⟨by omega, by omega⟩ dX8_image_34 rfl (v := 86) (sr_69_44 (M := M) hR) ?_
  refine wp_iload_n dX8_image_37 rfl rfl ?_
  refine wp_aload_n dX8_image_38 rfl rfl ?_
  refine wp_get 69 rfl fl_RX8_26 rfl ⟨by omega, by omega⟩ dX8_image_39 rfl (v := 74) (sr_69_9 (M := M) hR) ?_
  refine wp_iload_n dX8_image_42 rfl rfl ?_
  refine wp_iald 74 rfl rfl ⟨by omega, by omega⟩ ⟨by omega, by omega⟩ dX8_image_43 (v := (M 74 15)) (rfl) ?_
  refine wp_iast 86 rfl rfl ⟨by omega, by omega⟩ ⟨by omega, by omega⟩ dX8_image_44 (jn := 15) rfl ?_
  refine wp_iinc (loc' := [(2, 69), (0, 16)]) dX8_image_45 rfl (by omega) rfl ?_
  refine wp_goto (tgt := 27) dX8_image_48 (by decide) ?_
  refine wp_iload_n dX8_image_27 rfl rfl ?_
  refine wp_bipush dX8_image_28 (by decide) (by decide) ?_
  refine wp_icmp_ge (tgt := 51) dX8_image_30 (by decide) (fun h => absurd h (by decide)) (fun _ => ?_)
  refine wp_aload_n dX8_image_33 rfl rfl ?_
  refine wp_get 69 rfl fl_RX8_63 rfl ⟨by omega, by omega⟩ dX8_image_34 rfl (v := 86) (sr_69_44 (M := M) hR) ?_
  refine wp_iload_n dX8_image_37 rfl rfl ?_
  refine wp_aload_n dX8_image_38 rfl rfl ?_
  refine wp_get 69 rfl fl_RX8_26 rfl ⟨by omega, by omega⟩ dX8_image_39 rfl (v := 74) (sr_69_9 (M := M) hR) ?_
  refine wp_iload_n dX8_image_42 rfl rfl ?_
  refine wp_iald 74 rfl rfl ⟨by omega, by omega⟩ ⟨by omega, by omega⟩ dX8_image_43 (v := (M 74 16)) (rfl) ?_
  refine wp_iast 86 rfl rfl ⟨by omega, by omega⟩ ⟨by omega, by omega⟩ dX8_image_44 (jn := 16) rfl ?_
  refine wp_iinc (loc' := [(2, 69), (0, 17)]) dX8_image_45 rfl (by omega) rfl ?_
  refine wp_goto (tgt := 27) dX8_image_48 (by decide) ?_
  refine wp_iload_n dX8_image_27 rfl rfl ?_
  refine wp_bipush dX8_image_28 (by decide) (by decide) ?_
  refine wp_icmp_ge (tgt := 51) dX8_image_30 (by decide) (fun h => absurd h (by decide)) (fun _ => ?_)
  refine wp_aload_n dX8_image_33 rfl rfl ?_
  refine wp_get 69 rfl fl_RX8_63 rfl ⟨by omega, by omega⟩ dX8_image_34 rfl (v := 86) (sr_69_44 (M := M) hR) ?_
  refine wp_iload_n dX8_image_37 rfl rfl ?_
  refine wp_aload_n dX8_image_38 rfl rfl ?_
  refine wp_get 69 rfl fl_RX8_26 rfl ⟨by omega, by omega⟩ dX8_image_39 rfl (v := 74) (sr_69_9 (M := M) hR) ?_
  refine wp_iload_n dX8_image_42 rfl rfl ?_
  refine wp_iald 74 rfl rfl ⟨by omega, by omega⟩ ⟨by omega, by omega⟩ dX8_image_43 (v := (M 74 17)) (rfl) ?_
  refine wp_iast 86 rfl rfl ⟨by omega, by omega⟩ ⟨by omega, by omega⟩ dX8_image_44 (jn := 17) rfl ?_
  refine wp_iinc (loc' := [(2, 69), (0, 18)]) dX8_image_45 rfl (by omega) rfl ?_
  refine wp_goto (tgt := 27) dX8_image_48 (by decide) ?_
  refine wp_iload_n dX8_image_27 rfl rfl ?_
  refine wp_bipush dX8_image_28 (by decide) (by decide) ?_
  refine wp_icmp_ge (tgt := 51) dX8_image_30 (by decide) (fun h => absurd h (by decide)) (fun _ => ?_)
  refine wp_aload_n dX8_image_33 rfl rfl ?_
  refine wp_get 69 rfl fl_RX8_63 rfl ⟨by omega, by omega⟩ dX8_image_34 rfl (v := 86) (sr_69_44 (M := M) hR) ?_
  refine wp_iload_n dX8_image_37 rfl rfl ?_
  refine wp_aload_n dX8_image_38 rfl rfl ?_
  refine wp_get 69 rfl fl_RX8_26 rfl ⟨by omega, by omega⟩ dX8_image_39 rfl (v := 74) (sr_69_9 (M := M) hR) ?_
  refine wp_iload_n dX8_image_42 rfl rfl ?_
  refine wp_iald 74 rfl rfl ⟨by omega, by omega⟩ ⟨by omega, by omega⟩ dX8_image_43 (v := (M 74 18)) (rfl) ?_
  refine wp_iast 86 rfl rfl ⟨by omega, by omega⟩ ⟨by omega, by omega⟩ dX8_image_44 (jn := 18) rfl ?_
  refine wp_iinc (loc' := [(2, 69), (0, 19)]) dX8_image_45 rfl (by omega) rfl ?_
  refine wp_goto (tgt := 27) dX8_image_48 (by decide) ?_
  refine wp_iload_n dX8_image_27 rfl rfl ?_
  refine wp_bipush dX8_image_28 (by decide) (by decide) ?_
  refine wp_icmp_ge (tgt := 51) dX8_image_30 (by decide) (fun h => absurd h (by decide)) (fun _ => ?_)
  refine wp_aload_n dX8_image_33 rfl rfl ?_
  refine wp_get 69 rfl fl_RX8_63 rfl ⟨by omega, by omega⟩ dX8_image_34 rfl (v := 86) (sr_69_44 (M := M) hR) ?_
  refine wp_iload_n dX8_image_37 rfl rfl ?_
  refine wp_aload_n dX8_image_38 rfl rfl ?_
  refine wp_get 69 rfl fl_RX8_26 rfl ⟨by omega, by omega⟩ dX8_image_39 rfl (v := 74) (sr_69_9 (M := M) hR) ?_
  refine wp_iload_n dX8_image_42 rfl rfl ?_
  refine wp_iald 74 rfl rfl ⟨by omega, by omega⟩ ⟨by omega, by omega⟩ dX8_image_43 (v := (M 74 19)) (rfl) ?_
  refine wp_iast 86 rfl rfl ⟨by omega, by omega⟩ ⟨by omega, by omega⟩ dX8_image_44 (jn := 19) rfl ?_
  refine wp_iinc (loc' := [(2, 69), (0, 20)]) dX8_image_45 rfl (by omega) rfl ?_
  refine wp_goto (tgt := 27) dX8_image_48 (by decide) ?_
  refine wp_iload_n dX8_image_27 rfl rfl ?_
  refine wp_bipush dX8_image_28 (by decide) (by decide) ?_
  refine wp_icmp_ge (tgt := 51) dX8_image_30 (by decide) (fun _ => ?_) (fun h => absurd h (by decide))
  refine wp_aload_n dX8_image_51 rfl rfl ?_
  refine wp_aload_n dX8_image_52 rfl rfl ?_
  refine wp_get 69 rfl fl_RX8_123 rfl ⟨by omega, by omega⟩ dX8_image_53 rfl (v := (M 69 12)) (rfl) ?_
  refine wp_puti 69 rfl fl_RX8_459 rfl ⟨by omega, by omega⟩ dX8_image_56 rfl rfl ?_
  refine wp_aload_n dX8_image_59 rfl rfl ?_
  refine wp_aload_n dX8_image_60 rfl rfl ?_
  refine wp_get 69 rfl fl_RX8_88 rfl ⟨by omega, by omega⟩ dX8_image_61 rfl (v := (M 69 10)) (rfl) ?_
  refine wp_puti 69 rfl fl_RX8_66 rfl ⟨by omega, by omega⟩ dX8_image_64 rfl rfl ?_
  refine wp_aload_n dX8_image_67 rfl rfl ?_
  refine wp_aload_n dX8_image_68 rfl rfl ?_
  refine wp_get 69 rfl fl_RX8_113 rfl ⟨by omega, by omega⟩ dX8_image_69 rfl (v := (M 69 7)) (rfl) ?_
  refine wp_puti 69 rfl fl_RX8_462 rfl ⟨by omega, by omega⟩ dX8_image_72 rfl rfl ?_
  refine wp_aload_n dX8_image_75 rfl rfl ?_
  refine wp_aload_n dX8_image_76 rfl rfl ?_
  refine wp_get 69 rfl fl_RX8_116 rfl ⟨by omega, by omega⟩ dX8_image_77 rfl (v := (M 69 4)) (rfl) ?_
  refine wp_puti 69 rfl fl_RX8_465 rfl ⟨by omega, by omega⟩ dX8_image_80 rfl rfl ?_
  refine wp_aload_n dX8_image_83 rfl rfl ?_
  refine wp_get 69 rfl fl_RX8_88 rfl ⟨by omega, by omega⟩ dX8_image_84 rfl (v := (M 69 10)) (rfl) ?_
  refine wp_iret rfl dX8_image_87 ?_
  refine k _ ((((((((((((((((((((((((((((((Fr.rf : Fr VMk M M).put (by unfold VMk; omega)).put (by unfold VMk; omega)).put (by unfold VMk; omega)).put (by unfold VMk; omega)).put (by unfold VMk; omega)).put (by unfold VMk; omega)).put (by unfold VMk; omega)).put (by unfold VMk; omega)).put (by unfold VMk; omega)).put (by unfold VMk; omega)).put (by unfold VMk; omega)).put (by unfold VMk; omega)).put (by unfold VMk; omega)).put (by unfold VMk; omega)).put (by unfold VMk; omega)).put (by unfold VMk; omega)).put (by unfold VMk; omega)).put (by unfold VMk; omega)).put (by unfold VMk; omega)).put (by unfold VMk; omega)).put (by unfold VMk; omega)).put (by unfold VMk; omega)).put (by unfold VMk; omega)).put (by unfold VMk; omega)).put (by unfold VMk; omega)).put (by unfold VMk; omega)).put (by unfold VMk; omega)).put (by unfold VMk; omega)).put (by unfold VMk; omega)) ?_ ?_ rfl rfl rfl rfl
  · intro j hj
    rcases (show j = 0 ∨ j = 1 ∨ j = 2 ∨ j = 3 ∨ j = 4 by omega) with rfl | rfl | rfl | rfl | rfl
    · rfl
    · rfl
    · rfl
    · rfl
    · rfl
  · intro j hj
    rcases (show j = 0 ∨ j = 1 ∨ j = 2 ∨ j = 3 ∨ j = 4 ∨ j = 5 ∨ j = 6 ∨ j = 7 ∨ j = 8 ∨ j = 9 ∨ j = 10 ∨ j = 11 ∨ j = 12 ∨ j = 13 ∨ j = 14 ∨ j = 15 ∨ j = 16 ∨ j = 17 ∨ j = 18 ∨ j = 19 by omega) with rfl | rfl | rfl | rfl | rfl | rfl | rfl | rfl | rfl | rfl | rfl | rfl | rfl | rfl | rfl | rfl | rfl | rfl | rfl | rfl
    · rfl
    · rfl
    · rfl
    · rfl
    · rfl
    · rfl
    · rfl
    · rfl
    · rfl
    · rfl
    · rfl
    · rfl
    · rfl
    · rfl
    · rfl
    · rfl
    · rfl
    · rfl
    · rfl
    · rfl
def VMc (i j : Nat) : Prop := i = 74 ∨ i = 75 ∨ (i = 69 ∧ (j = 4 ∨ j = 7 ∨ j = 10 ∨ j = 12))
theorem VMc.l : ∀ i j, VMc i j → VMl i j := by
  intro i j h
  unfold VMc at h
  unfold VMl
  omega
set_option maxRecDepth 20000 in
set_option maxHeartbeats 4000000 in
theorem sp_bak0 {l : Launch} {g : Gw} {d n : Nat} {M : Mm} {Q : Option Wd → Mm → Prop} (hn : 90 ≤ n) (hR : SR M) (kS : M 69 46 = -1 → Q (some (0, -3)) M) (k : M 69 46 ≠ -1 → ∀ M', Fr VMc M M' → (∀ j : Nat, j < 5 → M' 75 j = M 85 j) → (∀ j : Nat, j < 20 → M' 74 j = M 86 j) → M' 69 12 = M 69 45 → M' 69 10 = M 69 46 → M' 69 7 = M 69 47 → M' 69 4 = M 69 48 → Q (some (0, M 69 46)) M') : Wp l g d 0 0 n m_X8_back 0 [] [(2, 69), (9, 0)] M Q := by
  refine wp_aload_n dX8_back_0 rfl rfl ?_
  refine wp_get 69 rfl fl_RX8_66 rfl ⟨by omega, by omega⟩ dX8_back_1 rfl (v := (M 69 46)) (rfl) ?_
  refine wp_iconst dX8_back_4 (by decide) ?_
  refine wp_icmp_ne (tgt := 11) dX8_back_5 (by decide) (fun h5 => ?_) (fun h5 => ?_)
  · refine wp_iconst dX8_back_11 (by decide) ?_
    refine wp_istore_n (loc' := [(2, 69), (0, 0)]) dX8_back_12 rfl (Nat.le_of_ble_eq_true rfl) rfl ?_
    refine wp_iload_n dX8_back_13 rfl rfl ?_
    refine wp_iconst dX8_back_14 (by decide) ?_
    refine wp_icmp_ge (tgt := 36) dX8_back_15 (by decide) (fun h => absurd h (by decide)) (fun _ => ?_)
    refine wp_aload_n dX8_back_18 rfl rfl ?_
    refine wp_get 69 rfl fl_RX8_29 rfl ⟨by omega, by omega⟩ dX8_back_19 rfl (v := 75) (sr_69_11 (M := M) hR) ?_
    refine wp_iload_n dX8_back_22 rfl rfl ?_
    refine wp_aload_n dX8_back_23 rfl rfl ?_
    refine wp_get 69 rfl fl_RX8_60 rfl ⟨by omega, by omega⟩ dX8_back_24 rfl (v := 85) (sr_69_43 (M := M) hR) ?_
    refine wp_iload_n dX8_back_27 rfl rfl ?_
    refine wp_iald 85 rfl rfl ⟨by omega, by omega⟩ ⟨by omega, by omega⟩ dX8_back_28 (v := (M 85 0)) (rfl) ?_
    refine wp_iast 75 rfl rfl ⟨by omega, by omega⟩ ⟨by omega, by omega⟩ dX8_back_29 (jn := 0) rfl ?_
    refine wp_iinc (loc' := [(2, 69), (0, 1)]) dX8_back_30 rfl (by omega) rfl ?_
    refine wp_goto (tgt := 13) dX8_back_33 (by decide) ?_
    refine wp_iload_n dX8_back_13 rfl rfl ?_
    refine wp_iconst dX8_back_14 (by decide) ?_
    refine wp_icmp_ge (tgt := 36) dX8_back_15 (by decide) (fun h => absurd h (by decide)) (fun _ => ?_)
    refine wp_aload_n dX8_back_18 rfl rfl ?_
    refine wp_get 69 rfl fl_RX8_29 rfl ⟨by omega, by omega⟩ dX8_back_19 rfl (v := 75) (sr_69_11 (M := M) hR) ?_
    refine wp_iload_n dX8_back_22 rfl rfl ?_
    refine wp_aload_n dX8_back_23 rfl rfl ?_
    refine wp_get 69 rfl fl_RX8_60 rfl ⟨by omega, by omega⟩ dX8_back_24 rfl (v := 85) (sr_69_43 (M := M) hR) ?_
    refine wp_iload_n dX8_back_27 rfl rfl ?_
    refine wp_iald 85 rfl rfl ⟨by omega, by omega⟩ ⟨by omega, by omega⟩ dX8_back_28 (v := (M 85 1)) (rfl) ?_
    refine wp_iast 75 rfl rfl ⟨by omega, by omega⟩ ⟨by omega, by omega⟩ dX8_back_29 (jn := 1) rfl ?_
    refine wp_iinc (loc' := [(2, 69), (0, 2)]) dX8_back_30 rfl (by omega) rfl ?_
    refine wp_goto (tgt := 13) dX8_back_33 (by decide) ?_
    refine wp_iload_n dX8_back_13 rfl rfl ?_
    refine wp_iconst dX8_back_14 (by decide) ?_
    refine wp_icmp_ge (tgt := 36) dX8_back_15 (by decide) (fun h => absurd h (by decide)) (fun _ => ?_)
    refine wp_aload_n dX8_back_18 rfl rfl ?_
    refine wp_get 69 rfl fl_RX8_29 rfl ⟨by omega, by omega⟩ dX8_back_19 rfl (v := 75) (sr_69_11 (M := M) hR) ?_
    refine wp_iload_n dX8_back_22 rfl rfl ?_
    refine wp_aload_n dX8_back_23 rfl rfl ?_
    refine wp_get 69 rfl fl_RX8_60 rfl ⟨by omega, by omega⟩ dX8_back_24 rfl (v := 85) (sr_69_43 (M := M) hR) ?_
    refine wp_iload_n dX8_back_27 rfl rfl ?_
    refine wp_iald 85 rfl rfl ⟨by omega, by omega⟩ ⟨by omega, by omega⟩ dX8_back_28 (v := (M 85 2)) (rfl) ?_
    refine wp_iast 75 rfl rfl ⟨by omega, by omega⟩ ⟨by omega, by omega⟩ dX8_back_29 (jn := 2) rfl ?_
    refine wp_iinc (loc' := [(2, 69), (0, 3)]) dX8_back_30 rfl (by omega) rfl ?_
    refine wp_goto (tgt := 13) dX8_back_33 (by decide) ?_
    refine wp_iload_n dX8_back_13 rfl rfl ?_
    refine wp_iconst dX8_back_14 (by decide) ?_
    refine wp_icmp_ge (tgt := 36) dX8_back_15 (by decide) (fun h => absurd h (by decide)) (fun _ => ?_)
    refine wp_aload_n dX8_back_18 rfl rfl ?_
    refine wp_get 69 rfl fl_RX8_29 rfl ⟨by omega, by omega⟩ dX8_back_19 rfl (v := 75) (sr_69_11 (M := M) hR) ?_
    refine wp_iload_n dX8_back_22 rfl rfl ?_
    refine wp_aload_n dX8_back_23 rfl rfl ?_
    refine wp_get 69 rfl fl_RX8_60 rfl ⟨by omega, by omega⟩ dX8_back_24 rfl (v := 85) (sr_69_43 (M := M) hR) ?_
    refine wp_iload_n dX8_back_27 rfl rfl ?_
    refine wp_iald 85 rfl rfl ⟨by omega, by omega⟩ ⟨by omega, by omega⟩ dX8_back_28 (v := (M 85 3)) (rfl) ?_
    refine wp_iast 75 rfl rfl ⟨by omega, by omega⟩ ⟨by omega, by omega⟩ dX8_back_29 (jn := 3) rfl ?_
    refine wp_iinc (loc' := [(2, 69), (0, 4)]) dX8_back_30 rfl (by omega) rfl ?_
    refine wp_goto (tgt := 13) dX8_back_33 (by decide) ?_
    refine wp_iload_n dX8_back_13 rfl rfl ?_
    refine wp_iconst dX8_back_14 (by decide) ?_
    refine wp_icmp_ge (tgt := 36) dX8_back_15 (by decide) (fun h => absurd h (by decide)) (fun _ => ?_)
    refine wp_aload_n dX8_back_18 rfl rfl ?_
    refine wp_get 69 rfl fl_RX8_29 rfl ⟨by omega, by omega⟩ dX8_back_19 rfl (v := 75) (sr_69_11 (M := M) hR) ?_
    refine wp_iload_n dX8_back_22 rfl rfl ?_
    refine wp_aload_n dX8_back_23 rfl rfl ?_
    refine wp_get 69 rfl fl_RX8_60 rfl ⟨by omega, by omega⟩ dX8_back_24 rfl (v := 85) (sr_69_43 (M := M) hR) ?_
    refine wp_iload_n dX8_back_27 rfl rfl ?_
    refine wp_iald 85 rfl rfl ⟨by omega, by omega⟩ ⟨by omega, by omega⟩ dX8_back_28 (v := (M 85 4)) (rfl) ?_
    refine wp_iast 75 rfl rfl ⟨by omega, by omega⟩ ⟨by omega, by omega⟩ dX8_back_29 (jn := 4) rfl ?_
    refine wp_iinc (loc' := [(2, 69), (0, 5)]) dX8_back_30 rfl (by omega) rfl ?_
    refine wp_goto (tgt := 13) dX8_back_33 (by decide) ?_
    refine wp_iload_n dX8_back_13 rfl rfl ?_
    refine wp_iconst dX8_back_14 (by decide) ?_
    refine wp_icmp_ge (tgt := 36) dX8_back_15 (by decide) (fun _ => ?_) (fun h => absurd h (by decide))
    refine wp_iconst dX8_back_36 (by decide) ?_
    refine wp_istore_n (loc' := [(2, 69), (0, 0)]) dX8_back_37 rfl (Nat.le_of_ble_eq_true rfl) rfl ?_
    refine wp_iload_n dX8_back_38 rfl rfl ?_
    refine wp_bipush dX8_back_39 (by decide) (by decide) ?_
    refine wp_icmp_ge (tgt := 62) dX8_back_41 (by decide) (fun h => absurd h (by decide)) (fun _ => ?_)
    refine wp_aload_n dX8_back_44 rfl rfl ?_
    refine wp_get 69 rfl fl_RX8_26 rfl ⟨by omega, by omega⟩ dX8_back_45 rfl (v := 74) (sr_69_9 (M := M) hR) ?_
    refine wp_iload_n dX8_back_48 rfl rfl ?_
    refine wp_aload_n dX8_back_49 rfl rfl ?_
    refine wp_get 69 rfl fl_RX8_63 rfl ⟨by omega, by omega⟩ dX8_back_50 rfl (v := 86) (sr_69_44 (M := M) hR) ?_
    refine wp_iload_n dX8_back_53 rfl rfl ?_
    refine wp_iald 86 rfl rfl ⟨by omega, by omega⟩ ⟨by omega, by omega⟩ dX8_back_54 (v := (M 86 0)) (rfl) ?_
    refine wp_iast 74 rfl rfl ⟨by omega, by omega⟩ ⟨by omega, by omega⟩ dX8_back_55 (jn := 0) rfl ?_
    refine wp_iinc (loc' := [(2, 69), (0, 1)]) dX8_back_56 rfl (by omega) rfl ?_
    refine wp_goto (tgt := 38) dX8_back_59 (by decide) ?_
    refine wp_iload_n dX8_back_38 rfl rfl ?_
    refine wp_bipush dX8_back_39 (by decide) (by decide) ?_
    refine wp_icmp_ge (tgt := 62) dX8_back_41 (by decide) (fun h => absurd h (by decide)) (fun _ => ?_)
    refine wp_aload_n dX8_back_44 rfl rfl ?_
    refine wp_get 69 rfl fl_RX8_26 rfl ⟨by omega, by omega⟩ dX8_back_45 rfl (v := 74) (sr_69_9 (M := M) hR) ?_
    refine wp_iload_n dX8_back_48 rfl rfl ?_
    refine wp_aload_n dX8_back_49 rfl rfl ?_
    refine wp_get 69 rfl fl_RX8_63 rfl ⟨by omega, by omega⟩ dX8_back_50 rfl (v := 86) (sr_69_44 (M := M) hR) ?_
    refine wp_iload_n dX8_back_53 rfl rfl ?_
    refine wp_iald 86 rfl rfl ⟨by omega, by omega⟩ ⟨by omega, by omega⟩ dX8_back_54 (v := (M 86 1)) (rfl) ?_
    refine wp_iast 74 rfl rfl ⟨by omega, by omega⟩ ⟨by omega, by omega⟩ dX8_back_55 (jn := 1) rfl ?_
    refine wp_iinc (loc' := [(2, 69), (0, 2)]) dX8_back_56 rfl (by omega) rfl ?_
    refine wp_goto (tgt := 38) dX8_back_59 (by decide) ?_
    refine wp_iload_n dX8_back_38 rfl rfl ?_
    refine wp_bipush dX8_back_39 (by decide) (by decide) ?_
    refine wp_icmp_ge (tgt := 62) dX8_back_41 (by decide) (fun h => absurd h (by decide)) (fun _ => ?_)
    refine wp_aload_n dX8_back_44 rfl rfl ?_
    refine wp_get 69 rfl fl_RX8_26 rfl ⟨by omega, by omega⟩ dX8_back_45 rfl (v := 74) (sr_69_9 (M := M) hR) ?_
    refine wp_iload_n dX8_back_48 rfl rfl ?_
    refine wp_aload_n dX8_back_49 rfl rfl ?_
    refine wp_get 69 rfl fl_RX8_63 rfl ⟨by omega, by omega⟩ dX8_back_50 rfl (v := 86) (sr_69_44 (M := M) hR) ?_
    refine wp_iload_n dX8_back_53 rfl rfl ?_
    refine wp_iald 86 rfl rfl ⟨by omega, by omega⟩ ⟨by omega, by omega⟩ dX8_back_54 (v := (M 86 2)) (rfl) ?_
    refine wp_iast 74 rfl rfl ⟨by omega, by omega⟩ ⟨by omega, by omega⟩ dX8_back_55 (jn := 2) rfl ?_
    refine wp_iinc (loc' := [(2, 69), (0, 3)]) dX8_back_56 rfl (by omega) rfl ?_
    refine wp_goto (tgt := 38) dX8_back_59 (by decide) ?_
    refine wp_iload_n dX8_back_38 rfl rfl ?_
    refine wp_bipush dX8_back_39 (by decide) (by decide) ?_
    refine wp_icmp_ge (tgt := 62) dX8_back_41 (by decide) (fun h => absurd h (by decide)) (fun _ => ?_)
    refine wp_aload_n dX8_back_44 rfl rfl ?_
    refine wp_get 69 rfl fl_RX8_26 rfl ⟨by omega, by omega⟩ dX8_back_45 rfl (v := 74) (sr_69_9 (M := M) hR) ?_
    refine wp_iload_n dX8_back_48 rfl rfl ?_
    refine wp_aload_n dX8_back_49 rfl rfl ?_
    refine wp_get 69 rfl fl_RX8_63 rfl ⟨by omega, by omega⟩ dX8_back_50 rfl (v := 86) (sr_69_44 (M := M) hR) ?_
    refine wp_iload_n dX8_back_53 rfl rfl ?_
    refine wp_iald 86 rfl rfl ⟨by omega, by omega⟩ ⟨by omega, by omega⟩ dX8_back_54 (v := (M 86 3)) (rfl) ?_
    refine wp_iast 74 rfl rfl ⟨by omega, by omega⟩ ⟨by omega, by omega⟩ dX8_back_55 (jn := 3) rfl ?_
    refine wp_iinc (loc' := [(2, 69), (0, 4)]) dX8_back_56 rfl (by omega) rfl ?_
    refine wp_goto (tgt := 38) dX8_back_59 (by decide) ?_
    refine wp_iload_n dX8_back_38 rfl rfl ?_
    refine wp_bipush dX8_back_39 (by decide) (by decide) ?_
    refine wp_icmp_ge (tgt := 62) dX8_back_41 (by decide) (fun h => absurd h (by decide)) (fun _ => ?_)
    refine wp_aload_n dX8_back_44 rfl rfl ?_
    refine wp_get 69 rfl fl_RX8_26 rfl ⟨by omega, by omega⟩ dX8_back_45 rfl (v := 74) (sr_69_9 (M := M) hR) ?_
    refine wp_iload_n dX8_back_48 rfl rfl ?_
    refine wp_aload_n dX8_back_49 rfl rfl ?_
    refine wp_get 69 rfl fl_RX8_63 rfl ⟨by omega, by omega⟩ dX8_back_50 rfl (v := 86) (sr_69_44 (M := M) hR) ?_
    refine wp_iload_n dX8_back_53 rfl rfl ?_
    refine wp_iald 86 rfl rfl ⟨by omega, by omega⟩ ⟨by omega, by omega⟩ dX8_back_54 (v := (M 86 4)) (rfl) ?_
    refine wp_iast 74 rfl rfl ⟨by omega, by omega⟩ ⟨by omega, by omega⟩ dX8_back_55 (jn := 4) rfl ?_
    refine wp_iinc (loc' := [(2, 69), (0, 5)]) dX8_back_56 rfl (by omega) rfl ?_
    refine wp_goto (tgt := 38) dX8_back_59 (by decide) ?_
    refine wp_iload_n dX8_back_38 rfl rfl ?_
    refine wp_bipush dX8_back_39 (by decide) (by decide) ?_
    refine wp_icmp_ge (tgt := 62) dX8_back_41 (by decide) (fun h => absurd h (by decide)) (fun _ => ?_)
    refine wp_aload_n dX8_back_44 rfl rfl ?_
    refine wp_get 69 rfl fl_RX8_26 rfl ⟨by omega, by omega⟩ dX8_back_45 rfl (v := 74) (sr_69_9 (M := M) hR) ?_
    refine wp_iload_n dX8_back_48 rfl rfl ?_
    refine wp_aload_n dX8_back_49 rfl rfl ?_
    refine wp_get 69 rfl fl_RX8_63 rfl ⟨by omega, by omega⟩ dX8_back_50 rfl (v := 86) (sr_69_44 (M := M) hR) ?_
    refine wp_iload_n dX8_back_53 rfl rfl ?_
    refine wp_iald 86 rfl rfl ⟨by omega, by omega⟩ ⟨by omega, by omega⟩ dX8_back_54 (v := (M 86 5)) (rfl) ?_
    refine wp_iast 74 rfl rfl ⟨by omega, by omega⟩ ⟨by omega, by omega⟩ dX8_back_55 (jn := 5) rfl ?_
    refine wp_iinc (loc' := [(2, 69), (0, 6)]) dX8_back_56 rfl (by omega) rfl ?_
    refine wp_goto (tgt := 38) dX8_back_59 (by decide) ?_
    refine wp_iload_n dX8_back_38 rfl rfl ?_
    refine wp_bipush dX8_back_39 (by decide) (by decide) ?_
    refine wp_icmp_ge (tgt := 62) dX8_back_41 (by decide) (fun h => absurd h (by decide)) (fun _ => ?_)
    refine wp_aload_n dX8_back_44 rfl rfl ?_
    refine wp_get 69 rfl fl_RX8_26 rfl ⟨by omega, by omega⟩ dX8_back_45 rfl (v := 74) (sr_69_9 (M := M) hR) ?_
    refine wp_iload_n dX8_back_48 rfl rfl ?_
    refine wp_aload_n dX8_back_49 rfl rfl ?_
    refine wp_get 69 rfl fl_RX8_63 rfl ⟨by omega, by omega⟩ dX8_back_50 rfl (v := 86) (sr_69_44 (M := M) hR) ?_
    refine wp_iload_n dX8_back_53 rfl rfl ?_
    refine wp_iald 86 rfl rfl ⟨by omega, by omega⟩ ⟨by omega, by omega⟩ dX8_back_54 (v := (M 86 6)) (rfl) ?_
    refine wp_iast 74 rfl rfl ⟨by omega, by omega⟩ ⟨by omega, by omega⟩ dX8_back_55 (jn := 6) rfl ?_
    refine wp_iinc (loc' := [(2, 69), (0, 7)]) dX8_back_56 rfl (by omega) rfl ?_
    refine wp_goto (tgt := 38) dX8_back_59 (by decide) ?_
    refine wp_iload_n dX8_back_38 rfl rfl ?_
    refine wp_bipush dX8_back_39 (by decide) (by decide) ?_
    refine wp_icmp_ge (tgt := 62) dX8_back_41 (by decide) (fun h => absurd h (by decide)) (fun _ => ?_)
    refine wp_aload_n dX8_back_44 rfl rfl ?_
    refine wp_get 69 rfl fl_RX8_26 rfl ⟨by omega, by omega⟩ dX8_back_45 rfl (v := 74) (sr_69_9 (M := M) hR) ?_
    refine wp_iload_n dX8_back_48 rfl rfl ?_
    refine wp_aload_n dX8_back_49 rfl rfl ?_
    refine wp_get 69 rfl fl_RX8_63 rfl ⟨by omega, by omega⟩ dX8_back_50 rfl (v := 86) (sr_69_44 (M := M) hR) ?_
    refine wp_iload_n dX8_back_53 rfl rfl ?_
    refine wp_iald 86 rfl rfl ⟨by omega, by omega⟩ ⟨by omega, by omega⟩ dX8_back_54 (v := (M 86 7)) (rfl) ?_
    refine wp_iast 74 rfl rfl ⟨by omega, by omega⟩ ⟨by omega, by omega⟩ dX8_back_55 (jn := 7) rfl ?_
    refine wp_iinc (loc' := [(2, 69), (0, 8)]) dX8_back_56 rfl (by omega) rfl ?_
    refine wp_goto (tgt := 38) dX8_back_59 (by decide) ?_
    refine wp_iload_n dX8_back_38 rfl rfl ?_
    refine wp_bipush dX8_back_39 (by decide) (by decide) ?_
    refine wp_icmp_ge (tgt := 62) dX8_back_41 (by decide) (fun h => absurd h (by decide)) (fun _ => ?_)
    refine wp_aload_n dX8_back_44 rfl rfl ?_
    refine wp_get 69 rfl fl_RX8_26 rfl ⟨by omega, by omega⟩ dX8_back_45 rfl (v := 74) (sr_69_9 (M := M) hR) ?_
    refine wp_iload_n dX8_back_48 rfl rfl ?_
    refine wp_aload_n dX8_back_49 rfl rfl ?_
    refine wp_get 69 rfl fl_RX8_63 rfl ⟨by omega, by omega⟩ dX8_back_50 rfl (v := 86) (sr_69_44 (M := M) hR) ?_
    refine wp_iload_n dX8_back_53 rfl rfl ?_
    refine wp_iald 86 rfl rfl ⟨by omega, by omega⟩ ⟨by omega, by omega⟩ dX8_back_54 (v := (M 86 8)) (rfl) ?_
    refine wp_iast 74 rfl rfl ⟨by omega, by omega⟩ ⟨by omega, by omega⟩ dX8_back_55 (jn := 8) rfl ?_
    refine wp_iinc (loc' := [(2, 69), (0, 9)]) dX8_back_56 rfl (by omega) rfl ?_
    refine wp_goto (tgt := 38) dX8_back_59 (by decide) ?_
    refine wp_iload_n dX8_back_38 rfl rfl ?_
    refine wp_bipush dX8_back_39 (by decide) (by decide) ?_
    refine wp_icmp_ge (tgt := 62) dX8_back_41 (by decide) (fun h => absurd h (by decide)) (fun _ => ?_)
    refine wp_aload_n dX8_back_44 rfl rfl ?_
    refine wp_get 69 rfl fl_RX8_26 rfl ⟨by omega, by omega⟩ dX8_back_45 rfl (v := 74) (sr_69_9 (M := M) hR) ?_
    refine wp_iload_n dX8_back_48 rfl rfl ?_
    refine wp_aload_n dX8_back_49 rfl rfl ?_
    refine wp_get 69 rfl fl_RX8_63 rfl ⟨by omega, by omega⟩ dX8_back_50 rfl (v := 86) (sr_69_44 (M := M) hR) ?_
    refine wp_iload_n dX8_back_53 rfl rfl ?_
    refine wp_iald 86 rfl rfl ⟨by omega, by omega⟩ ⟨by omega, by omega⟩ dX8_back_54 (v := (M 86 9)) (rfl) ?_
    refine wp_iast 74 rfl rfl ⟨by omega, by omega⟩ ⟨by omega, by omega⟩ dX8_back_55 (jn := 9) rfl ?_
    refine wp_iinc (loc' := [(2, 69), (0, 10)]) dX8_back_56 rfl (by omega) rfl ?_
    refine wp_goto (tgt := 38) dX8_back_59 (by decide) ?_
    refine wp_iload_n dX8_back_38 rfl rfl ?_
    refine wp_bipush dX8_back_39 (by decide) (by decide) ?_
    refine wp_icmp_ge (tgt := 62) dX8_back_41 (by decide) (fun h => absurd h (by decide)) (fun _ => ?_)
    refine wp_aload_n dX8_back_44 rfl rfl ?_
    refine wp_get 69 rfl fl_RX8_26 rfl ⟨by omega, by omega⟩ dX8_back_45 rfl (v := 74) (sr_69_9 (M := M) hR) ?_
    refine wp_iload_n dX8_back_48 rfl rfl ?_
    refine wp_aload_n dX8_back_49 rfl rfl ?_
    refine wp_get 69 rfl fl_RX8_63 rfl ⟨by omega, by omega⟩ dX8_back_50 rfl (v := 86) (sr_69_44 (M := M) hR) ?_
    refine wp_iload_n dX8_back_53 rfl rfl ?_
    refine wp_iald 86 rfl rfl ⟨by omega, by omega⟩ ⟨by omega, by omega⟩ dX8_back_54 (v := (M 86 10)) (rfl) ?_
    refine wp_iast 74 rfl rfl ⟨by omega, by omega⟩ ⟨by omega, by omega⟩ dX8_back_55 (jn := 10) rfl ?_
    refine wp_iinc (loc' := [(2, 69), (0, 11)]) dX8_back_56 rfl (by omega) rfl ?_
    refine wp_goto (tgt := 38) dX8_back_59 (by decide) ?_
    refine wp_iload_n dX8_back_38 rfl rfl ?_
    refine wp_bipush dX8_back_39 (by decide) (by decide) ?_
    refine wp_icmp_ge (tgt := 62) dX8_back_41 (by decide) (fun h => absurd h (by decide)) (fun _ => ?_)
    refine wp_aload_n dX8_back_44 rfl rfl ?_
    refine wp_get 69 rfl fl_RX8_26 rfl ⟨by omega, by omega⟩ dX8_back_45 rfl (v := 74) (sr_69_9 (M := M) hR) ?_
    refine wp_iload_n dX8_back_48 rfl rfl ?_
    refine wp_aload_n dX8_back_49 rfl rfl ?_
    refine wp_get 69 rfl fl_RX8_63 rfl ⟨by omega, by omega⟩ dX8_back_50 rfl (v := 86) (sr_69_44 (M := M) hR) ?_
    refine wp_iload_n dX8_back_53 rfl rfl ?_
    refine wp_iald 86 rfl rfl ⟨by omega, by omega⟩ ⟨by omega, by omega⟩ dX8_back_54 (v := (M 86 11)) (rfl) ?_
    refine wp_iast 74 rfl rfl ⟨by omega, by omega⟩ ⟨by omega, by omega⟩ dX8_back_55 (jn := 11) rfl ?_
    refine wp_iinc (loc' := [(2, 69), (0, 12)]) dX8_back_56 rfl (by omega) rfl ?_
    refine wp_goto (tgt := 38) dX8_back_59 (by decide) ?_
    refine wp_iload_n dX8_back_38 rfl rfl ?_
    refine wp_bipush dX8_back_39 (by decide) (by decide) ?_
    refine wp_icmp_ge (tgt := 62) dX8_back_41 (by decide) (fun h => absurd h (by decide)) (fun _ => ?_)
    refine wp_aload_n dX8_back_44 rfl rfl ?_
    refine wp_get 69 rfl fl_RX8_26 rfl ⟨by omega, by omega⟩ dX8_back_45 rfl (v := 74) (sr_69_9 (M := M) hR) ?_
    refine wp_iload_n dX8_back_48 rfl rfl ?_
    refine wp_aload_n dX8_back_49 rfl rfl ?_
    refine wp_get 69 rfl fl_RX8_63 rfl ⟨by omega, by omega⟩ dX8_back_50 rfl (v := 86) (sr_69_44 (M := M) hR) ?_
    refine wp_iload_n dX8_back_53 rfl rfl ?_
    refine wp_iald 86 rfl rfl ⟨by omega, by omega⟩ ⟨by omega, by omega⟩ dX8_back_54 (v := (M 86 12)) (rfl) ?_
    refine wp_iast 74 rfl rfl ⟨by omega, by omega⟩ ⟨by omega, by omega⟩ dX8_back_55 (jn := 12) rfl ?_
    refine wp_iinc (loc' := [(2, 69), (0, 13)]) dX8_back_56 rfl (by omega) rfl ?_
    refine wp_goto (tgt := 38) dX8_back_59 (by decide) ?_
    refine wp_iload_n dX8_back_38 rfl rfl ?_
    refine wp_bipush dX8_back_39 (by decide) (by decide) ?_
    refine wp_icmp_ge (tgt := 62) dX8_back_41 (by decide) (fun h => absurd h (by decide)) (fun _ => ?_)
    refine wp_aload_n dX8_back_44 rfl rfl ?_
    refine wp_get 69 rfl fl_RX8_26 rfl ⟨by omega, by omega⟩ dX8_back_45 rfl (v := 74) (sr_69_9 (M := M) hR) ?_
    refine wp_iload_n dX8_back_48 rfl rfl ?_
    refine wp_aload_n dX8_back_49 rfl rfl ?_
    refine wp_get 69 rfl fl_RX8_63 rfl ⟨by omega, by omega⟩ dX8_back_50 rfl (v := 86) (sr_69_44 (M := M) hR) ?_
    refine wp_iload_n dX8_back_53 rfl rfl ?_
    refine wp_iald 86 rfl rfl ⟨by omega, by omega⟩ ⟨by omega, by omega⟩ dX8_back_54 (v := (M 86 13)) (rfl) ?_
    refine wp_iast 74 rfl rfl ⟨by omega, by omega⟩ ⟨by omega, by omega⟩ dX8_back_55 (jn := 13) rfl ?_
    refine wp_iinc (loc' := [(2, 69), (0, 14)]) dX8_back_56 rfl (by omega) rfl ?_
    refine wp_goto (tgt := 38) dX8_back_59 (by decide) ?_
    refine wp_iload_n dX8_back_38 rfl rfl ?_
    refine wp_bipush dX8_back_39 (by decide) (by decide) ?_
    refine wp_icmp_ge (tgt := 62) dX8_back_41 (by decide) (fun h => absurd h (by decide)) (fun _ => ?_)
    refine wp_aload_n dX8_back_44 rfl rfl ?_
    refine wp_get 69 rfl fl_RX8_26 rfl ⟨by omega, by omega⟩ dX8_back_45 rfl (v := 74) (sr_69_9 (M := M) hR) ?_
    refine wp_iload_n dX8_back_48 rfl rfl ?_
    refine wp_aload_n dX8_back_49 rfl rfl ?_
    refine wp_get 69 rfl fl_RX8_63 rfl ⟨by omega, by omega⟩ dX8_back_50 rfl (v := 86) (sr_69_44 (M := M) hR) ?_
    refine wp_iload_n dX8_back_53 rfl rfl ?_
    refine wp_iald 86 rfl rfl ⟨by omega, by omega⟩ ⟨by omega, by omega⟩ dX8_back_54 (v := (M 86 14)) (rfl) ?_
    refine wp_iast 74 rfl rfl ⟨by omega, by omega⟩ ⟨by omega, by omega⟩ dX8_back_55 (jn := 14) rfl ?_
    refine wp_iinc (loc' := [(2, 69), (0, 15)]) dX8_back_56 rfl (by omega) rfl ?_
    refine wp_goto (tgt := 38) dX8_back_59 (by decide) ?_
    refine wp_iload_n dX8_back_38 rfl rfl ?_
    refine wp_bipush dX8_back_39 (by decide) (by decide) ?_
    refine wp_icmp_ge (tgt := 62) dX8_back_41 (by decide) (fun h => absurd h (by decide)) (fun _ => ?_)
    refine wp_aload_n dX8_back_44 rfl rfl ?_
    refine wp_get 69 rfl fl_RX8_26 rfl ⟨by omega, by omega⟩ dX8_back_45 rfl (v := 74) (sr_69_9 (M := M) hR) ?_
    refine wp_iload_n dX8_back_48 rfl rfl ?_
    refine wp_aload_n dX8_back_49 rfl rfl ?_
    refine wp_get 69 rfl fl_RX8_63 rfl ⟨by omega, by omega⟩ dX8_back_50 rfl (v := 86) (sr_69_44 (M := M) hR) ?_
    refine wp_iload_n dX8_back_53 rfl rfl ?_
    refine wp_iald 86 rfl rfl ⟨by omega, by omega⟩ ⟨by omega, by omega⟩ dX8_back_54 (v := (M 86 15)) (rfl) ?_
    refine wp_iast 74 rfl rfl ⟨by omega, by omega⟩ ⟨by omega, by omega⟩ dX8_back_55 (jn := 15) rfl ?_
    refine wp_iinc (loc' := [(2, 69), (0, 16)]) dX8_back_56 rfl (by omega) rfl ?_
    refine wp_goto (tgt := 38) dX8_back_59 (by decide) ?_
    refine wp_iload_n dX8_back_38 rfl rfl ?_
    refine wp_bipush dX8_back_39 (by decide) (by decide) ?_
    refine wp_icmp_ge (tgt := 62) dX8_back_41 (by decide) (fun h => absurd h (by decide)) (fun _ => ?_)
    refine wp_aload_n dX8_back_44 rfl rfl ?_
    refine wp_get 69 rfl fl_RX8_26 rfl ⟨by omega, by omega⟩ dX8_back_45 rfl (v := 74) (sr_69_9 (M := M) hR) ?_
    refine wp_iload_n dX8_back_48 rfl rfl ?_
    refine wp_aload_n dX8_back_49 rfl rfl ?_
    refine wp_get 69 rfl fl_RX8_63 rfl ⟨by omega, by omega⟩ dX8_back_50 rfl (v := 86) (sr_69_44 (M := M) hR) ?_
    refine wp_iload_n dX8_back_53 rfl rfl ?_
    refine wp_iald 86 rfl rfl ⟨by omega, by omega⟩ ⟨by omega, by omega⟩ dX8_back_54 (v := (M 86 16)) (rfl) ?_
    refine wp_iast 74 rfl rfl ⟨by omega, by omega⟩ ⟨by omega, by omega⟩ dX8_back_55 (jn := 16) rfl ?_
    refine wp_iinc (loc' := [(2, 69), (0, 17)]) dX8_back_56 rfl (by omega) rfl ?_
    refine wp_goto (tgt := 38) dX8_back_59 (by decide) ?_
    refine wp_iload_n dX8_back_38 rfl rfl ?_
    refine wp_bipush dX8_back_39 (by decide) (by decide) ?_
    refine wp_icmp_ge (tgt := 62) dX8_back_41 (by decide) (fun h => absurd h (by decide)) (fun _ => ?_)
    refine wp_aload_n dX8_back_44 rfl rfl ?_
    refine wp_get 69 rfl fl_RX8_26 rfl ⟨by omega, by omega⟩ dX8_back_45 rfl (v := 74) (sr_69_9 (M := M) hR) ?_
    refine wp_iload_n dX8_back_48 rfl rfl ?_
    refine wp_aload_n dX8_back_49 rfl rfl ?_
    refine wp_get 69 rfl fl_RX8_63 rfl ⟨by omega, by omega⟩ dX8_back_50 rfl (v := 86) (sr_69_44 (M := M) hR) ?_
    refine wp_iload_n dX8_back_53 rfl rfl ?_
    refine wp_iald 86 rfl rfl ⟨by omega, by omega⟩ ⟨by omega, by omega⟩ dX8_back_54 (v := (M 86 17)) (rfl) ?_
    refine wp_iast 74 rfl rfl ⟨by omega, by omega⟩ ⟨by omega, by omega⟩ dX8_back_55 (jn := 17) rfl ?_
    refine wp_iinc (loc' := [(2, 69), (0, 18)]) dX8_back_56 rfl (by omega) rfl ?_
    refine wp_goto (tgt := 38) dX8_back_59 (by decide) ?_
    refine wp_iload_n dX8_back_38 rfl rfl ?_
    refine wp_bipush dX8_back_39 (by decide) (by decide) ?_
    refine wp_icmp_ge (tgt := 62) dX8_back_41 (by decide) (fun h => absurd h (by decide)) (fun _ => ?_)
    refine wp_aload_n dX8_back_44 rfl rfl ?_
    refine wp_get 69 rfl fl_RX8_26 rfl ⟨by omega, by omega⟩ dX8_back_45 rfl (v := 74) (sr_69_9 (M := M) hR) ?_
    refine wp_iload_n dX8_back_48 rfl rfl ?_
    refine wp_aload_n dX8_back_49 rfl rfl ?_
    refine wp_get 69 rfl fl_RX8_63 rfl ⟨by omega, by omega⟩ dX8_back_50 rfl (v := 86) (sr_69_44 (M := M) hR) ?_
    refine wp_iload_n dX8_back_53 rfl rfl ?_
    refine wp_iald 86 rfl rfl ⟨by omega, by omega⟩ ⟨by omega, by omega⟩ dX8_back_54 (v := (M 86 18)) (rfl) ?_
    refine wp_iast 74 rfl rfl ⟨by omega, by omega⟩ ⟨by omega, by omega⟩ dX8_back_55 (jn := 18) rfl ?_
    refine wp_iinc (loc' := [(2, 69), (0, 19)]) dX8_back_56 rfl (by omega) rfl ?_
    refine wp_goto (tgt := 38) dX8_back_59 (by decide) ?_
    refine wp_iload_n dX8_back_38 rfl rfl ?_
    refine wp_bipush dX8_back_39 (by decide) (by decide) ?_
    refine wp_icmp_ge (tgt := 62) dX8_back_41 (by decide) (fun h => absurd h (by decide)) (fun _ => ?_)
    refine wp_aload_n dX8_back_44 rfl rfl ?_
    refine wp_get 69 rfl fl_RX8_26 rfl ⟨by omega, by omega⟩ dX8_back_45 rfl (v := 74) (sr_69_9 (M := M) hR) ?_
    refine wp_iload_n dX8_back_48 rfl rfl ?_
    refine wp_aload_n dX8_back_49 rfl rfl ?_
    refine wp_get 69 rfl fl_RX8_63 rfl ⟨by omega, by omega⟩ dX8_back_50 rfl (v := 86) (sr_69_44 (M := M) hR) ?_
    refine wp_iload_n dX8_back_53 rfl rfl ?_
    refine wp_iald 86 rfl rfl ⟨by omega, by omega⟩ ⟨by omega, by omega⟩ dX8_back_54 (v := (M 86 19)) (rfl) ?_
    refine wp_iast 74 rfl rfl ⟨by omega, by omega⟩ ⟨by omega, by omega⟩ dX8_back_55 (jn := 19) rfl ?_
    refine wp_iinc (loc' := [(2, 69), (0, 20)]) dX8_back_56 rfl (by omega) rfl ?_
    refine wp_goto (tgt := 38) dX8_back_59 (by decide) ?_
    refine wp_iload_n dX8_back_38 rfl rfl ?_
    refine wp_bipush dX8_back_39 (by decide) (by decide) ?_
    refine wp_icmp_ge (tgt := 62) dX8_back_41 (by decide) (fun _ => ?_) (fun h => absurd h (by decide))
    refine wp_aload_n dX8_back_62 rfl rfl ?_
    refine wp_aload_n dX8_back_63 rfl rfl ?_
    refine wp_get 69 rfl fl_RX8_459 rfl ⟨by omega, by omega⟩ dX8_back_64 rfl (v := (M 69 45)) (rfl) ?_
    refine wp_puti 69 rfl fl_RX8_123 rfl ⟨by omega, by omega⟩ dX8_back_67 rfl rfl ?_
    refine wp_aload_n dX8_back_70 rfl rfl ?_
    refine wp_aload_n dX8_back_71 rfl rfl ?_
    refine wp_get 69 rfl fl_RX8_66 rfl ⟨by omega, by omega⟩ dX8_back_72 rfl (v := (M 69 46)) (rfl) ?_
    refine wp_puti 69 rfl fl_RX8_88 rfl ⟨by omega, by omega⟩ dX8_back_75 rfl rfl ?_
    refine wp_aload_n dX8_back_78 rfl rfl ?_
    refine wp_aload_n dX8_back_79 rfl rfl ?_
    refine wp_get 69 rfl fl_RX8_462 rfl ⟨by omega, by omega⟩ dX8_back_80 rfl (v := (M 69 47)) (rfl) ?_
    refine wp_puti 69 rfl fl_RX8_113 rfl ⟨by omega, by omega⟩ dX8_back_83 rfl rfl ?_
    refine wp_aload_n dX8_back_86 rfl rfl ?_
    refine wp_aload_n dX8_back_87 rfl rfl ?_
    refine wp_get 69 rfl fl_RX8_465 rfl ⟨by omega, by omega⟩ dX8_back_88 rfl (v := (M 69 48)) (rfl) ?_
    refine wp_puti 69 rfl fl_RX8_116 rfl ⟨by omega, by omega⟩ dX8_back_91 rfl rfl ?_
    refine wp_aload_n dX8_back_94 rfl rfl ?_
    refine wp_get 69 rfl fl_RX8_88 rfl ⟨by omega, by omega⟩ dX8_back_95 rfl (v := (M 69 46)) (rfl) ?_
    refine wp_iret rfl dX8_back_98 ?_
    refine k h5 _ ((((((((((((((((((((((((((((((Fr.rf : Fr VMc M M).put (by unfold VMc; omega)).put (by unfold VMc; omega)).put (by unfold VMc; omega)).put (by unfold VMc; omega)).put (by unfold VMc; omega)).put (by unfold VMc; omega)).put (by unfold VMc; omega)).put (by unfold VMc; omega)).put (by unfold VMc; omega)).put (by unfold VMc; omega)).put (by unfold VMc; omega)).put (by unfold VMc; omega)).put (by unfold VMc; omega)).put (by unfold VMc; omega)).put (by unfold VMc; omega)).put (by unfold VMc; omega)).put (by unfold VMc; omega)).put (by unfold VMc; omega)).put (by unfold VMc; omega)).put (by unfold VMc; omega)).put (by unfold VMc; omega)).put (by unfold VMc; omega)).put (by unfold VMc; omega)).put (by unfold VMc; omega)).put (by unfold VMc; omega)).put (by unfold VMc; omega)).put (by unfold VMc; omega)).put (by unfold VMc; omega)).put (by unfold VMc; omega)) ?_ ?_ rfl rfl rfl rfl
    · intro j hj
      rcases (show j = 0 ∨ j = 1 ∨ j = 2 ∨ j = 3 ∨ j = 4 by omega) with rfl | rfl | rfl | rfl | rfl
      · rfl
      · rfl
      · rfl
      · rfl
      · rfl
    · intro j hj
      rcases (show j = 0 ∨ j = 1 ∨ j = 2 ∨ j = 3 ∨ j = 4 ∨ j = 5 ∨ j = 6 ∨ j = 7 ∨ j = 8 ∨ j = 9 ∨ j = 10 ∨ j = 11 ∨ j = 12 ∨ j = 13 ∨ j = 14 ∨ j = 15 ∨ j = 16 ∨ j = 17 ∨ j = 18 ∨ j = 19 by omega) with rfl | rfl | rfl | rfl | rfl | rfl | rfl | rfl | rfl | rfl | rfl | rfl | rfl | rfl | rfl | rfl | rfl | rfl | rfl | rfl
      · rfl
      · rfl
      · rfl
      · rfl
      · rfl
      · rfl
      · rfl
      · rfl
      · rfl
      · rfl
      · rfl
      · rfl
      · rfl
      · rfl
      · rfl
      · rfl
      · rfl
      · rfl
      · rfl
      · rfl
  · refine wp_bipush dX8_back_8 (by decide) (by decide) ?_
    refine wp_iret rfl dX8_back_10 ?_
    exact kS h5
theorem cm_image {l : Launch} {g : Gw} {d n : Nat} {M : Mm} {Q : Option Wd → Mm → Prop} (hn : 90 ≤ n) {A : Ls} {E : Ev} (hI : MJ M A E) (k : ∀ M', MJ M' A E → KPm M' A → Fr VMk M M' → Q (some (0, A.1 2)) M') : Wp l g d 0 0 n m_X8_image 0 [] [(2, 69), (9, 0)] M Q := by
  obtain ⟨hR, hA, hW, hr, hX⟩ := id hI
  have w5 := hW.2.1
  have w32 := hW.2.2.2.1
  refine sp_img0 hn hR (fun M1 f1 a1 a2 b1 b2 b3 b4 => ?_)
  rw [hA.2.2.1]
  exact k M1 (hI.frn (f1.mono VMk.n) (VMk.sr f1 hR)) ⟨b1.trans hA.2.2.2.1, b2.trans hA.2.2.1, b3.trans hA.1, b4.trans hA.2.1, fun q hq => (a1 q (by omega)).trans (hA.2.2.2.2.2.2 q hq), fun r i hr hi => (a2 _ (by omega)).trans (hA.2.2.2.2.2.1 r i hr hi)⟩ f1
theorem cm_back {l : Launch} {g : Gw} {d n : Nat} {M : Mm} {Q : Option Wd → Mm → Prop} (hn : 90 ≤ n) {A : Ls} {E : Ev} (hI : MJ M A E) (kS : M 69 46 = -1 → Q (some (0, -3)) M) {K : Ls} (hK : M 69 46 ≠ -1 → KPm M K ∧ Wf K ∧ (0 ≤ K.1 1 ∧ K.1 1 < M 69 3) ∧ K.1 2 ≤ A.1 2 ∧ ∀ i : Nat, (i : Int) < K.1 2 → A.2 0 i = K.2 0 i) (k : M 69 46 ≠ -1 → ∀ M', MJ M' K E → Fr VMl M M' → Q (some (0, K.1 2)) M') : Wp l g d 0 0 n m_X8_back 0 [] [(2, 69), (9, 0)] M Q := by
  obtain ⟨hR, hA, hW, hr, hX⟩ := id hI
  refine sp_bak0 hn hR kS (fun hne M1 f1 a1 a2 b1 b2 b3 b4 => ?_)
  obtain ⟨hk, hkW, hkr, hk2, hk0⟩ := hK hne
  have w5 := hkW.2.1
  have w32 := hkW.2.2.2.1
  rw [hk.2.1]
  exact k hne M1 (hI.new (f1.mono VMc.l) ⟨b3.trans hk.2.2.1, b4.trans hk.2.2.2.1, b2.trans hk.2.1, b1.trans hk.1, fun i hi => (f1 73 i (by unfold VMc; omega)).trans ((hA.2.2.2.2.1 i (by omega)).trans (hk0 i hi)), fun r i hr hi => (a2 _ (by omega)).trans (hk.2.2.2.2.2 r i hr hi), fun q hq => (a1 q (by omega)).trans (hk.2.2.2.2.1 q hq)⟩ hkW hkr) (f1.mono VMc.l)
