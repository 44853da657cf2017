/-! ===== the model: what changes a land ===== -/
def VMl (i j : Nat) : Prop := VMs i j ∨ i = 73 ∨ i = 74 ∨ i = 75 ∨ (i = 69 ∧ (j = 4 ∨ j = 7 ∨ j = 10 ∨ j = 12))
theorem VMl.sr {M M' : Mm} (h : Fr VMl M M') (hR : SR M) : SR M' := hR.frL h (by unfold VMl VMs; decide +kernel)
theorem VMs.l : ∀ i j, VMs i j → VMl i j := fun i j h => Or.inl h
theorem MJ.new {M M' : Mm} {A A' : Ls} {E : Ev} (h : MJ M A E) (g : Fr VMl M M') (hA : Rm M' A') (hW : Wf A') (hr : 0 ≤ A'.1 1 ∧ A'.1 1 < M 69 3) : MJ M' A' E := by
  have e3 : M' 69 3 = M 69 3 := g 69 3 (by unfold VMl VMs; omega)
  exact ⟨VMl.sr g h.1, hA, hW, ⟨hr.1, by rw [e3]; exact hr.2⟩, h.2.2.2.2.fr e3 (fun j => g 70 j (by unfold VMl VMs; omega)) (fun j => g 71 j (by unfold VMl VMs; omega))⟩
theorem Rm.setR {M : Mm} {A : Ls} (h : Rm M A) {r i : Nat} {v : Int} (hr : r < 4) : Rm (mu M 74 (4 * i + r) v) (setA A (r + 1) i v) := by
  obtain ⟨a, b, c, d, x, y, z⟩ := h
  refine ⟨a, b, c, d, fun k hk => (x k hk).trans (mu_ne A.2 i v (show (0 : Nat) ≠ r + 1 by omega) _).symm, fun s k hs hk => ?_, fun q hq => (z q hq).trans (mu_ne A.2 i v (show (5 : Nat) ≠ r + 1 by omega) _).symm⟩
  show mu M 74 (4 * i + r) v 74 (4 * k + s) = mu A.2 (r + 1) i v (s + 1) k
  by_cases e : s = r ∧ k = i
  · obtain ⟨rfl, rfl⟩ := e
    rw [mu_self, mu_self]
  · rw [mu_nj _ _ _ (show 4 * k + s ≠ 4 * i + r by omega), y s k hs hk]
    by_cases e2 : s = r
    · subst e2
      rw [mu_nj _ _ _ (by omega)]
    · rw [mu_ne _ _ _ (by omega)]
theorem Rm.setK {M : Mm} {A : Ls} (h : Rm M A) {i : Nat} {v : Int} : Rm (mu M 73 i v) (setA A 0 i v) := by
  obtain ⟨a, b, c, d, x, y, z⟩ := h
  refine ⟨a, b, c, d, fun k hk => ?_, fun s k hs hk => (y s k hs hk).trans (mu_ne A.2 i v (show s + 1 ≠ 0 by omega) _).symm, fun q hq => (z q hq).trans (mu_ne A.2 i v (show (5 : Nat) ≠ 0 by omega) _).symm⟩
  show mu M 73 i v 73 k = mu A.2 0 i v 0 k
  by_cases e : k = i
  · subst e
    rw [mu_self, mu_self]
  · rw [mu_nj _ _ _ e, mu_nj _ _ _ e, x k hk]
theorem Rm.setM {M : Mm} {A : Ls} (h : Rm M A) {v : Int} : Rm (mu M 69 7 v) (setS A 0 v) := ⟨rfl, h.2.1, h.2.2.1, h.2.2.2.1, h.2.2.2.2.1, h.2.2.2.2.2.1, h.2.2.2.2.2.2⟩
theorem Rm.setT {M : Mm} {A : Ls} (h : Rm M A) {v : Int} : Rm (mu M 69 4 v) (setS A 1 v) := ⟨h.1, rfl, h.2.2.1, h.2.2.2.1, h.2.2.2.2.1, h.2.2.2.2.2.1, h.2.2.2.2.2.2⟩
theorem Wf.setZ {A : Ls} (h : Wf A) (v : Int) : Wf (setS A 0 v) := h
/-- what set leaves -/
def stA (A : Ls) (w o v : Int) : Ls := if w = 0 then setS A 0 v else setA A w.toNat o.toNat v
def wasA (A : Ls) (w o : Int) : Int := if w = 0 then A.1 0 else A.2 w.toNat o.toNat
set_option maxRecDepth 20000 in
set_option maxHeartbeats 4000000 in
theorem sp_setm_0 {l : Launch} {g : Gw} {d n : Nat} {M : Mm} {Q : Option Wd → Mm → Prop} (hn : 90 ≤ n) {A : Ls} {E : Ev} (hI : MJ M A E) (hd : 70 ≤ d) (o v : Int) (kB : ¬ okSet A 0 o v → Q (some (0, -2)) M) (k : okSet A 0 o v → ∀ M', MJ M' (stA A 0 o v) E → Fr VMl M M' → Q (some (0, wasA A 0 o)) M') : Wp l g d 0 0 n m_X8_set 0 [] [(2, 69), (0, 0), (0, o), (0, v), (9, 0)] M Q := by
  obtain ⟨hR, hA, hW, hr, hX⟩ := id hI
  have w2 := hW.1
  have w5 := hW.2.1
  have w3 := hW.2.2.1
  have w32 := hW.2.2.2.1
  refine wp_iload_n dX8_set_0 rfl rfl ?_
  refine wp_i2l dX8_set_1 ?_
  refine wp_lconst (v := 0) dX8_set_2 (by decide) (by decide) ?_
  refine wp_ldc2 (x := 4) dX8_set_3 kl_RX8_95 (by decide) (wr_l (by omega)) ?_
  refine wp_callS0 (d' := d - 1) cs_RX8_91 [(1, 0), (1, 0), (1, 4)] [] rfl rfl (Nat.le_of_ble_eq_true rfl) dX8_set_6 rfl (Nat.le_of_ble_eq_true rfl) (by omega) (loc1 := [(1, 0), (9, 0), (1, 0), (9, 0), (1, 4), (9, 0)]) rfl ?_
  refine sp_in 0 0 4 (fun _ => ?_) (fun h => absurd (by decide) h)
  refine wp_if_eq (tgt := 52) dX8_set_9 (by decide) (fun h => absurd h (by decide)) (fun _ => ?_)
  refine wp_iload_n dX8_set_12 rfl rfl ?_
  refine wp_if_le (tgt := 24) dX8_set_13 (by decide) (fun _ => ?_) (fun h => absurd h (by decide))
  refine wp_iload_n dX8_set_24 rfl rfl ?_
  refine wp_i2l dX8_set_25 ?_
  refine wp_lconst (v := 0) dX8_set_26 (by decide) (by decide) ?_
  refine wp_iload_n dX8_set_27 rfl rfl ?_
  refine wp_callS0 (d' := d - 1) cs_RX8_101 [(0, 0)] [(1, 0), (1, v)] rfl rfl (Nat.le_of_ble_eq_true rfl) dX8_set_28 rfl (Nat.le_of_ble_eq_true rfl) (by omega) (loc1 := [(0, 0)]) rfl ?_
  refine wp_iload_n dX8_mostOf_0 rfl rfl ?_
  refine wp_if_ne (tgt := 10) dX8_mostOf_1 (by decide) (fun h => absurd h (by decide)) (fun _ => ?_)
  refine wp_sipush dX8_mostOf_4 (by decide) (by decide) ?_
  refine wp_goto (tgt := 42) dX8_mostOf_7 (by decide) ?_
  refine wp_iret rfl dX8_mostOf_42 ?_
  refine wp_i2l dX8_set_31 ?_
  refine wp_callS0 (d' := d - 1) cs_RX8_91 [(1, v), (1, 0), (1, 999)] [] rfl rfl (Nat.le_of_ble_eq_true rfl) dX8_set_32 rfl (Nat.le_of_ble_eq_true rfl) (by omega) (loc1 := [(1, v), (9, 0), (1, 0), (9, 0), (1, 999), (9, 0)]) rfl ?_
  refine sp_in v 0 999 (fun i32 => ?_) (fun i32 => ?_)
  · refine wp_if_eq (tgt := 52) dX8_set_35 (by decide) (fun h => absurd h (by decide)) (fun _ => ?_)
    refine wp_iload_n dX8_set_38 rfl rfl ?_
    refine wp_iconst dX8_set_39 (by decide) ?_
    refine wp_icmp_ne (tgt := 55) dX8_set_40 (by decide) (fun _ => ?_) (fun h => absurd h (by decide))
    refine wp_aload_n dX8_set_55 rfl rfl ?_
    refine wp_iload_n dX8_set_56 rfl rfl ?_
    refine wp_iload_n dX8_set_57 rfl rfl ?_
    refine wp_callV0 (d' := d - 1) cv_RX8_105 69 rfl [(0, o), (0, 0)] [] rfl rfl (Or.inl ⟨_, _, rfl, by decide, rfl, by omega, by omega⟩) (by omega) (Nat.le_of_ble_eq_true rfl) dX8_set_58 rfl (Nat.le_of_ble_eq_true rfl) (by omega) (loc1 := [(2, 69), (0, o), (0, 0)]) rfl ?_
    refine sp_tolm_0 hn hI (by omega) o (fun M1 F1 => ?_)
    have I1 := hI.frs F1
    obtain ⟨R1, A1, _, _, _⟩ := id I1
    rw [show toldA E A o 0 = wasA A 0 o from rfl]
    refine wp_istore (loc' := [(2, 69), (0, 0), (0, o), (0, v), (0, (wasA A 0 o))]) dX8_set_61 (Nat.le_of_ble_eq_true rfl) rfl ?_
    refine wp_aload_n dX8_set_63 rfl rfl ?_
    refine wp_iload_n dX8_set_64 rfl rfl ?_
    refine wp_iload_n dX8_set_65 rfl rfl ?_
    refine wp_iload_n dX8_set_66 rfl rfl ?_
    refine wp_callV0 (d' := d - 1) cv_RX8_109 69 rfl [(0, 0), (0, o), (0, v)] [] rfl rfl (Or.inl ⟨_, _, rfl, by decide, rfl, by omega, by omega⟩) (by omega) (Nat.le_of_ble_eq_true rfl) dX8_set_67 rfl (Nat.le_of_ble_eq_true rfl) (by omega) (loc1 := [(2, 69), (0, 0), (0, o), (0, v)]) rfl ?_
    refine wp_iload_n dX8_lays_0 rfl rfl ?_
    refine wp_if_ne (tgt := 12) dX8_lays_1 (by decide) (fun h => absurd h (by decide)) (fun _ => ?_)
    refine wp_aload_n dX8_lays_4 rfl rfl ?_
    refine wp_iload_n dX8_lays_5 rfl rfl ?_
    refine wp_puti 69 rfl fl_RX8_113 rfl ⟨by omega, by omega⟩ dX8_lays_6 rfl rfl ?_
    refine wp_goto (tgt := 53) dX8_lays_9 (by decide) ?_
    refine wp_vret rfl dX8_lays_53 ?_
    refine wp_iload dX8_set_70 rfl ?_
    refine wp_iret rfl dX8_set_72 ?_
    have g1 : Fr VMl M (mu M1 69 7 v) := (F1.mono VMs.l).put (by unfold VMl VMs; omega)
    have hok : okSet A 0 o v := by unfold okSet; omega
    exact k hok _ (hI.new g1 (A1.setM) (hW.setZ v) hr) g1
  · refine wp_if_eq (tgt := 52) dX8_set_35 (by decide) (fun _ => ?_) (fun h => absurd h (by decide))
    refine wp_bipush dX8_set_52 (by decide) (by decide) ?_
    refine wp_iret rfl dX8_set_54 ?_
    refine kB (fun h => ?_)
    unfold okSet at h
    omega
set_option maxRecDepth 20000 in
set_option maxHeartbeats 4000000 in
theorem sp_setm_1 {l : Launch} {g : Gw} {d n : Nat} {M : Mm} {Q : Option Wd → Mm → Prop} (hn : 90 ≤ n) {A : Ls} {E : Ev} (hI : MJ M A E) (hd : 70 ≤ d) (o v : Int) (kB : ¬ okSet A 1 o v → Q (some (0, -2)) M) (k : okSet A 1 o v → ∀ M', MJ M' (stA A 1 o v) E → Fr VMl M M' → Q (some (0, wasA A 1 o)) M') : Wp l g d 0 0 n m_X8_set 0 [] [(2, 69), (0, 1), (0, o), (0, v), (9, 0)] M Q := by
  obtain ⟨hR, hA, hW, hr, hX⟩ := id hI
  have w2 := hW.1
  have w5 := hW.2.1
  have w3 := hW.2.2.1
  have w32 := hW.2.2.2.1
  refine wp_iload_n dX8_set_0 rfl rfl ?_
  refine wp_i2l dX8_set_1 ?_
  refine wp_lconst (v := 0) dX8_set_2 (by decide) (by decide) ?_
  refine wp_ldc2 (x := 4) dX8_set_3 kl_RX8_95 (by decide) (wr_l (by omega)) ?_
  refine wp_callS0 (d' := d - 1) cs_RX8_91 [(1, 1), (1, 0), (1, 4)] [] rfl rfl (Nat.le_of_ble_eq_true rfl) dX8_set_6 rfl (Nat.le_of_ble_eq_true rfl) (by omega) (loc1 := [(1, 1), (9, 0), (1, 0), (9, 0), (1, 4), (9, 0)]) rfl ?_
  refine sp_in 1 0 4 (fun _ => ?_) (fun h => absurd (by decide) h)
  refine wp_if_eq (tgt := 52) dX8_set_9 (by decide) (fun h => absurd h (by decide)) (fun _ => ?_)
  refine wp_iload_n dX8_set_12 rfl rfl ?_
  refine wp_if_le (tgt := 24) dX8_set_13 (by decide) (fun h => absurd h (by decide)) (fun _ => ?_)
  refine wp_aload_n dX8_set_16 rfl rfl ?_
  refine wp_iload_n dX8_set_17 rfl rfl ?_
  refine wp_callV0 (d' := d - 1) cv_RX8_97 69 rfl [(0, o)] [] rfl rfl (Or.inl ⟨_, _, rfl, by decide, rfl, by omega, by omega⟩) (by omega) (Nat.le_of_ble_eq_true rfl) dX8_set_18 rfl (Nat.le_of_ble_eq_true rfl) (by omega) (loc1 := [(2, 69), (0, o)]) rfl ?_
  refine sp_isOne hn hI (by omega) o (fun o18 => ?_) (fun o18 => ?_)
  · refine wp_if_eq (tgt := 52) dX8_set_21 (by decide) (fun h => absurd h (by decide)) (fun _ => ?_)
    refine wp_iload_n dX8_set_24 rfl rfl ?_
    refine wp_i2l dX8_set_25 ?_
    refine wp_lconst (v := 0) dX8_set_26 (by decide) (by decide) ?_
    refine wp_iload_n dX8_set_27 rfl rfl ?_
    refine wp_callS0 (d' := d - 1) cs_RX8_101 [(0, 1)] [(1, 0), (1, v)] rfl rfl (Nat.le_of_ble_eq_true rfl) dX8_set_28 rfl (Nat.le_of_ble_eq_true rfl) (by omega) (loc1 := [(0, 1)]) rfl ?_
    refine wp_iload_n dX8_mostOf_0 rfl rfl ?_
    refine wp_if_ne (tgt := 10) dX8_mostOf_1 (by decide) (fun _ => ?_) (fun h => absurd h (by decide))
    refine wp_iload_n dX8_mostOf_10 rfl rfl ?_
    refine wp_iconst dX8_mostOf_11 (by decide) ?_
    refine wp_icmp_ne (tgt := 20) dX8_mostOf_12 (by decide) (fun h => absurd h (by decide)) (fun _ => ?_)
    refine wp_bipush dX8_mostOf_15 (by decide) (by decide) ?_
    refine wp_goto (tgt := 42) dX8_mostOf_17 (by decide) ?_
    refine wp_iret rfl dX8_mostOf_42 ?_
    refine wp_i2l dX8_set_31 ?_
    refine wp_callS0 (d' := d - 1) cs_RX8_91 [(1, v), (1, 0), (1, 9)] [] rfl rfl (Nat.le_of_ble_eq_true rfl) dX8_set_32 rfl (Nat.le_of_ble_eq_true rfl) (by omega) (loc1 := [(1, v), (9, 0), (1, 0), (9, 0), (1, 9), (9, 0)]) rfl ?_
    refine sp_in v 0 9 (fun i32 => ?_) (fun i32 => ?_)
    · refine wp_if_eq (tgt := 52) dX8_set_35 (by decide) (fun h => absurd h (by decide)) (fun _ => ?_)
      refine wp_iload_n dX8_set_38 rfl rfl ?_
      refine wp_iconst dX8_set_39 (by decide) ?_
      refine wp_icmp_ne (tgt := 55) dX8_set_40 (by decide) (fun _ => ?_) (fun h => absurd h (by decide))
      refine wp_aload_n dX8_set_55 rfl rfl ?_
      refine wp_iload_n dX8_set_56 rfl rfl ?_
      refine wp_iload_n dX8_set_57 rfl rfl ?_
      refine wp_callV0 (d' := d - 1) cv_RX8_105 69 rfl [(0, o), (0, 1)] [] rfl rfl (Or.inl ⟨_, _, rfl, by decide, rfl, by omega, by omega⟩) (by omega) (Nat.le_of_ble_eq_true rfl) dX8_set_58 rfl (Nat.le_of_ble_eq_true rfl) (by omega) (loc1 := [(2, 69), (0, o), (0, 1)]) rfl ?_
      refine sp_tolm_1 hn hI (by omega) o (fun M1 F1 => ?_)
      have I1 := hI.frs F1
      obtain ⟨R1, A1, _, _, _⟩ := id I1
      rw [show toldA E A o 1 = wasA A 1 o from (if_neg (by decide)).trans ((if_neg (by omega)).trans rfl)]
      refine wp_istore (loc' := [(2, 69), (0, 1), (0, o), (0, v), (0, (wasA A 1 o))]) dX8_set_61 (Nat.le_of_ble_eq_true rfl) rfl ?_
      refine wp_aload_n dX8_set_63 rfl rfl ?_
      refine wp_iload_n dX8_set_64 rfl rfl ?_
      refine wp_iload_n dX8_set_65 rfl rfl ?_
      refine wp_iload_n dX8_set_66 rfl rfl ?_
      refine wp_callV0 (d' := d - 1) cv_RX8_109 69 rfl [(0, 1), (0, o), (0, v)] [] rfl rfl (Or.inl ⟨_, _, rfl, by decide, rfl, by omega, by omega⟩) (by omega) (Nat.le_of_ble_eq_true rfl) dX8_set_67 rfl (Nat.le_of_ble_eq_true rfl) (by omega) (loc1 := [(2, 69), (0, 1), (0, o), (0, v)]) rfl ?_
      refine wp_iload_n dX8_lays_0 rfl rfl ?_
      refine wp_if_ne (tgt := 12) dX8_lays_1 (by decide) (fun _ => ?_) (fun h => absurd h (by decide))
      refine wp_iload_n dX8_lays_12 rfl rfl ?_
      refine wp_iconst dX8_lays_13 (by decide) ?_
      refine wp_icmp_ge (tgt := 33) dX8_lays_14 (by decide) (fun h => absurd h (by decide)) (fun _ => ?_)
      refine wp_aload_n dX8_lays_17 rfl rfl ?_
      refine wp_get 69 rfl fl_RX8_26 rfl ⟨by omega, by omega⟩ dX8_lays_18 rfl (v := 74) (sr_69_9 (M := M1) R1) ?_
      refine wp_iconst dX8_lays_21 (by decide) ?_
      refine wp_iload_n dX8_lays_22 rfl rfl ?_
      refine wp_imul dX8_lays_23 (by omega) ?_
      refine wp_iload_n dX8_lays_24 rfl rfl ?_
      refine wp_iadd dX8_lays_25 (by omega) ?_
      refine wp_iconst dX8_lays_26 (by decide) ?_
      refine wp_isub dX8_lays_27 (by omega) ?_
      refine wp_iload_n dX8_lays_28 rfl rfl ?_
      refine wp_iast 74 rfl rfl ⟨by omega, by omega⟩ ⟨by omega, by omega⟩ dX8_lays_29 (jn := (4 * o.toNat + 0)) (by omega) ?_
      refine wp_goto (tgt := 53) dX8_lays_30 (by decide) ?_
      refine wp_vret rfl dX8_lays_53 ?_
      refine wp_iload dX8_set_70 rfl ?_
      refine wp_iret rfl dX8_set_72 ?_
      have g1 : Fr VMl M (mu M1 74 (4 * o.toNat + 0) v) := (F1.mono VMs.l).put (by unfold VMl VMs; omega)
      have hok : okSet A 1 o v := by unfold okSet; omega
      exact k hok _ (hI.new g1 (A1.setR (r := 0) (i := o.toNat) (by omega)) (hW.aSet (r := 1) (by omega) (fun h => by omega)) hr) g1
    · refine wp_if_eq (tgt := 52) dX8_set_35 (by decide) (fun _ => ?_) (fun h => absurd h (by decide))
      refine wp_bipush dX8_set_52 (by decide) (by decide) ?_
      refine wp_iret rfl dX8_set_54 ?_
      refine kB (fun h => ?_)
      unfold okSet at h
      omega
  · refine wp_if_eq (tgt := 52) dX8_set_21 (by decide) (fun _ => ?_) (fun h => absurd h (by decide))
    refine wp_bipush dX8_set_52 (by decide) (by decide) ?_
    refine wp_iret rfl dX8_set_54 ?_
    refine kB (fun h => ?_)
    unfold okSet at h
    omega
set_option maxRecDepth 20000 in
set_option maxHeartbeats 4000000 in
theorem sp_setm_2 {l : Launch} {g : Gw} {d n : Nat} {M : Mm} {Q : Option Wd → Mm → Prop} (hn : 90 ≤ n) {A : Ls} {E : Ev} (hI : MJ M A E) (hd : 70 ≤ d) (o v : Int) (kB : ¬ okSet A 2 o v → Q (some (0, -2)) M) (k : okSet A 2 o v → ∀ M', MJ M' (stA A 2 o v) E → Fr VMl M M' → Q (some (0, wasA A 2 o)) M') : Wp l g d 0 0 n m_X8_set 0 [] [(2, 69), (0, 2), (0, o), (0, v), (9, 0)] M Q := by
  obtain ⟨hR, hA, hW, hr, hX⟩ := id hI
  have w2 := hW.1
  have w5 := hW.2.1
  have w3 := hW.2.2.1
  have w32 := hW.2.2.2.1
  refine wp_iload_n dX8_set_0 rfl rfl ?_
  refine wp_i2l dX8_set_1 ?_
  refine wp_lconst (v := 0) dX8_set_2 (by decide) (by decide) ?_
  refine wp_ldc2 (x := 4) dX8_set_3 kl_RX8_95 (by decide) (wr_l (by omega)) ?_
  refine wp_callS0 (d' := d - 1) cs_RX8_91 [(1, 2), (1, 0), (1, 4)] [] rfl rfl (Nat.le_of_ble_eq_true rfl) dX8_set_6 rfl (Nat.le_of_ble_eq_true rfl) (by omega) (loc1 := [(1, 2), (9, 0), (1, 0), (9, 0), (1, 4), (9, 0)]) rfl ?_
  refine sp_in 2 0 4 (fun _ => ?_) (fun h => absurd (by decide) h)
  refine wp_if_eq (tgt := 52) dX8_set_9 (by decide) (fun h => absurd h (by decide)) (fun _ => ?_)
  refine wp_iload_n dX8_set_12 rfl rfl ?_
  refine wp_if_le (tgt := 24) dX8_set_13 (by decide) (fun h => absurd h (by decide)) (fun _ => ?_)
  refine wp_aload_n dX8_set_16 rfl rfl ?_
  refine wp_iload_n dX8_set_17 rfl rfl ?_
  refine wp_callV0 (d' := d - 1) cv_RX8_97 69 rfl [(0, o)] [] rfl rfl (Or.inl ⟨_, _, rfl, by decide, rfl, by omega, by omega⟩) (by omega) (Nat.le_of_ble_eq_true rfl) dX8_set_18 rfl (Nat.le_of_ble_eq_true rfl) (by omega) (loc1 := [(2, 69), (0, o)]) rfl ?_
  refine sp_isOne hn hI (by omega) o (fun o18 => ?_) (fun o18 => ?_)
  · refine wp_if_eq (tgt := 52) dX8_set_21 (by decide) (fun h => absurd h (by decide)) (fun _ => ?_)
    refine wp_iload_n dX8_set_24 rfl rfl ?_
    refine wp_i2l dX8_set_25 ?_
    refine wp_lconst (v := 0) dX8_set_26 (by decide) (by decide) ?_
    refine wp_iload_n dX8_set_27 rfl rfl ?_
    refine wp_callS0 (d' := d - 1) cs_RX8_101 [(0, 2)] [(1, 0), (1, v)] rfl rfl (Nat.le_of_ble_eq_true rfl) dX8_set_28 rfl (Nat.le_of_ble_eq_true rfl) (by omega) (loc1 := [(0, 2)]) rfl ?_
    refine wp_iload_n dX8_mostOf_0 rfl rfl ?_
    refine wp_if_ne (tgt := 10) dX8_mostOf_1 (by decide) (fun _ => ?_) (fun h => absurd h (by decide))
    refine wp_iload_n dX8_mostOf_10 rfl rfl ?_
    refine wp_iconst dX8_mostOf_11 (by decide) ?_
    refine wp_icmp_ne (tgt := 20) dX8_mostOf_12 (by decide) (fun _ => ?_) (fun h => absurd h (by decide))
    refine wp_iload_n dX8_mostOf_20 rfl rfl ?_
    refine wp_iconst dX8_mostOf_21 (by decide) ?_
    refine wp_icmp_ne (tgt := 30) dX8_mostOf_22 (by decide) (fun h => absurd h (by decide)) (fun _ => ?_)
    refine wp_bipush dX8_mostOf_25 (by decide) (by decide) ?_
    refine wp_goto (tgt := 42) dX8_mostOf_27 (by decide) ?_
    refine wp_iret rfl dX8_mostOf_42 ?_
    refine wp_i2l dX8_set_31 ?_
    refine wp_callS0 (d' := d - 1) cs_RX8_91 [(1, v), (1, 0), (1, 31)] [] rfl rfl (Nat.le_of_ble_eq_true rfl) dX8_set_32 rfl (Nat.le_of_ble_eq_true rfl) (by omega) (loc1 := [(1, v), (9, 0), (1, 0), (9, 0), (1, 31), (9, 0)]) rfl ?_
    refine sp_in v 0 31 (fun i32 => ?_) (fun i32 => ?_)
    · refine wp_if_eq (tgt := 52) dX8_set_35 (by decide) (fun h => absurd h (by decide)) (fun _ => ?_)
      refine wp_iload_n dX8_set_38 rfl rfl ?_
      refine wp_iconst dX8_set_39 (by decide) ?_
      refine wp_icmp_ne (tgt := 55) dX8_set_40 (by decide) (fun h => absurd h (by decide)) (fun _ => ?_)
      refine wp_iload_n dX8_set_43 rfl rfl ?_
      refine wp_iload_n dX8_set_44 rfl rfl ?_
      refine wp_ishr dX8_set_45 ?_
      refine wp_iconst dX8_set_46 (by decide) ?_
      refine wp_iand dX8_set_47 ?_
      refine wp_iconst dX8_set_48 (by decide) ?_
      refine wp_icmp_ne (tgt := 55) dX8_set_49 (by decide) (fun h49 => ?_) (fun h49 => ?_)
      · refine wp_aload_n dX8_set_55 rfl rfl ?_
        refine wp_iload_n dX8_set_56 rfl rfl ?_
        refine wp_iload_n dX8_set_57 rfl rfl ?_
        refine wp_callV0 (d' := d - 1) cv_RX8_105 69 rfl [(0, o), (0, 2)] [] rfl rfl (Or.inl ⟨_, _, rfl, by decide, rfl, by omega, by omega⟩) (by omega) (Nat.le_of_ble_eq_true rfl) dX8_set_58 rfl (Nat.le_of_ble_eq_true rfl) (by omega) (loc1 := [(2, 69), (0, o), (0, 2)]) rfl ?_
        refine sp_tolm_2 hn hI (by omega) o (fun M1 F1 => ?_)
        have I1 := hI.frs F1
        obtain ⟨R1, A1, _, _, _⟩ := id I1
        rw [show toldA E A o 2 = wasA A 2 o from (if_neg (by decide)).trans ((if_neg (by omega)).trans rfl)]
        refine wp_istore (loc' := [(2, 69), (0, 2), (0, o), (0, v), (0, (wasA A 2 o))]) dX8_set_61 (Nat.le_of_ble_eq_true rfl) rfl ?_
        refine wp_aload_n dX8_set_63 rfl rfl ?_
        refine wp_iload_n dX8_set_64 rfl rfl ?_
        refine wp_iload_n dX8_set_65 rfl rfl ?_
        refine wp_iload_n dX8_set_66 rfl rfl ?_
        refine wp_callV0 (d' := d - 1) cv_RX8_109 69 rfl [(0, 2), (0, o), (0, v)] [] rfl rfl (Or.inl ⟨_, _, rfl, by decide, rfl, by omega, by omega⟩) (by omega) (Nat.le_of_ble_eq_true rfl) dX8_set_67 rfl (Nat.le_of_ble_eq_true rfl) (by omega) (loc1 := [(2, 69), (0, 2), (0, o), (0, v)]) rfl ?_
        refine wp_iload_n dX8_lays_0 rfl rfl ?_
        refine wp_if_ne (tgt := 12) dX8_lays_1 (by decide) (fun _ => ?_) (fun h => absurd h (by decide))
        refine wp_iload_n dX8_lays_12 rfl rfl ?_
        refine wp_iconst dX8_lays_13 (by decide) ?_
        refine wp_icmp_ge (tgt := 33) dX8_lays_14 (by decide) (fun h => absurd h (by decide)) (fun _ => ?_)
        refine wp_aload_n dX8_lays_17 rfl rfl ?_
        refine wp_get 69 rfl fl_RX8_26 rfl ⟨by omega, by omega⟩ dX8_lays_18 rfl (v := 74) (sr_69_9 (M := M1) R1) ?_
        refine wp_iconst dX8_lays_21 (by decide) ?_
        refine wp_iload_n dX8_lays_22 rfl rfl ?_
        refine wp_imul dX8_lays_23 (by omega) ?_
        refine wp_iload_n dX8_lays_24 rfl rfl ?_
        refine wp_iadd dX8_lays_25 (by omega) ?_
        refine wp_iconst dX8_lays_26 (by decide) ?_
        refine wp_isub dX8_lays_27 (by omega) ?_
        refine wp_iload_n dX8_lays_28 rfl rfl ?_
        refine wp_iast 74 rfl rfl ⟨by omega, by omega⟩ ⟨by omega, by omega⟩ dX8_lays_29 (jn := (4 * o.toNat + 1)) (by omega) ?_
        refine wp_goto (tgt := 53) dX8_lays_30 (by decide) ?_
        refine wp_vret rfl dX8_lays_53 ?_
        refine wp_iload dX8_set_70 rfl ?_
        refine wp_iret rfl dX8_set_72 ?_
        have g1 : Fr VMl M (mu M1 74 (4 * o.toNat + 1) v) := (F1.mono VMs.l).put (by unfold VMl VMs; omega)
        have hok : okSet A 2 o v := by unfold okSet; have := bnd1 (shr v o); omega
        exact k hok _ (hI.new g1 (A1.setR (r := 1) (i := o.toNat) (by omega)) (hW.aSet (r := 2) (by omega) (fun h => by omega)) hr) g1
      · refine wp_bipush dX8_set_52 (by decide) (by decide) ?_
        refine wp_iret rfl dX8_set_54 ?_
        refine kB (fun h => ?_)
        unfold okSet at h
        omega
    · refine wp_if_eq (tgt := 52) dX8_set_35 (by decide) (fun _ => ?_) (fun h => absurd h (by decide))
      refine wp_bipush dX8_set_52 (by decide) (by decide) ?_
      refine wp_iret rfl dX8_set_54 ?_
      refine kB (fun h => ?_)
      unfold okSet at h
      omega
  · refine wp_if_eq (tgt := 52) dX8_set_21 (by decide) (fun _ => ?_) (fun h => absurd h (by decide))
    refine wp_bipush dX8_set_52 (by decide) (by decide) ?_
    refine wp_iret rfl dX8_set_54 ?_
    refine kB (fun h => ?_)
    unfold okSet at h
    omega
set_option maxRecDepth 20000 in
set_option maxHeartbeats 4000000 in
theorem sp_setm_3 {l : Launch} {g : Gw} {d n : Nat} {M : Mm} {Q : Option Wd → Mm → Prop} (hn : 90 ≤ n) {A : Ls} {E : Ev} (hI : MJ M A E) (hd : 70 ≤ d) (o v : Int) (kB : ¬ okSet A 3 o v → Q (some (0, -2)) M) (k : okSet A 3 o v → ∀ M', MJ M' (stA A 3 o v) E → Fr VMl M M' → Q (some (0, wasA A 3 o)) M') : Wp l g d 0 0 n m_X8_set 0 [] [(2, 69), (0, 3), (0, o), (0, v), (9, 0)] M Q := by
  obtain ⟨hR, hA, hW, hr, hX⟩ := id hI
  have w2 := hW.1
  have w5 := hW.2.1
  have w3 := hW.2.2.1
  have w32 := hW.2.2.2.1
  refine wp_iload_n dX8_set_0 rfl rfl ?_
  refine wp_i2l dX8_set_1 ?_
  refine wp_lconst (v := 0) dX8_set_2 (by decide) (by decide) ?_
  refine wp_ldc2 (x := 4) dX8_set_3 kl_RX8_95 (by decide) (wr_l (by omega)) ?_
  refine wp_callS0 (d' := d - 1) cs_RX8_91 [(1, 3), (1, 0), (1, 4)] [] rfl rfl (Nat.le_of_ble_eq_true rfl) dX8_set_6 rfl (Nat.le_of_ble_eq_true rfl) (by omega) (loc1 := [(1, 3), (9, 0), (1, 0), (9, 0), (1, 4), (9, 0)]) rfl ?_
  refine sp_in 3 0 4 (fun _ => ?_) (fun h => absurd (by decide) h)
  refine wp_if_eq (tgt := 52) dX8_set_9 (by decide) (fun h => absurd h (by decide)) (fun _ => ?_)
  refine wp_iload_n dX8_set_12 rfl rfl ?_
  refine wp_if_le (tgt := 24) dX8_set_13 (by decide) (fun h => absurd h (by decide)) (fun _ => ?_)
  refine wp_aload_n dX8_set_16 rfl rfl ?_
  refine wp_iload_n dX8_set_17 rfl rfl ?_
  refine wp_callV0 (d' := d - 1) cv_RX8_97 69 rfl [(0, o)] [] rfl rfl (Or.inl ⟨_, _, rfl, by decide, rfl, by omega, by omega⟩) (by omega) (Nat.le_of_ble_eq_true rfl) dX8_set_18 rfl (Nat.le_of_ble_eq_true rfl) (by omega) (loc1 := [(2, 69), (0, o)]) rfl ?_
  refine sp_isOne hn hI (by omega) o (fun o18 => ?_) (fun o18 => ?_)
  · refine wp_if_eq (tgt := 52) dX8_set_21 (by decide) (fun h => absurd h (by decide)) (fun _ => ?_)
    refine wp_iload_n dX8_set_24 rfl rfl ?_
    refine wp_i2l dX8_set_25 ?_
    refine wp_lconst (v := 0) dX8_set_26 (by decide) (by decide) ?_
    refine wp_iload_n dX8_set_27 rfl rfl ?_
    refine wp_callS0 (d' := d - 1) cs_RX8_101 [(0, 3)] [(1, 0), (1, v)] rfl rfl (Nat.le_of_ble_eq_true rfl) dX8_set_28 rfl (Nat.le_of_ble_eq_true rfl) (by omega) (loc1 := [(0, 3)]) rfl ?_
    refine wp_iload_n dX8_mostOf_0 rfl rfl ?_
    refine wp_if_ne (tgt := 10) dX8_mostOf_1 (by decide) (fun _ => ?_) (fun h => absurd h (by decide))
    refine wp_iload_n dX8_mostOf_10 rfl rfl ?_
    refine wp_iconst dX8_mostOf_11 (by decide) ?_
    refine wp_icmp_ne (tgt := 20) dX8_mostOf_12 (by decide) (fun _ => ?_) (fun h => absurd h (by decide))
    refine wp_iload_n dX8_mostOf_20 rfl rfl ?_
    refine wp_iconst dX8_mostOf_21 (by decide) ?_
    refine wp_icmp_ne (tgt := 30) dX8_mostOf_22 (by decide) (fun _ => ?_) (fun h => absurd h (by decide))
    refine wp_iload_n dX8_mostOf_30 rfl rfl ?_
    refine wp_iconst dX8_mostOf_31 (by decide) ?_
    refine wp_icmp_ne (tgt := 40) dX8_mostOf_32 (by decide) (fun h => absurd h (by decide)) (fun _ => ?_)
    refine wp_bipush dX8_mostOf_35 (by decide) (by decide) ?_
    refine wp_goto (tgt := 42) dX8_mostOf_37 (by decide) ?_
    refine wp_iret rfl dX8_mostOf_42 ?_
    refine wp_i2l dX8_set_31 ?_
    refine wp_callS0 (d' := d - 1) cs_RX8_91 [(1, v), (1, 0), (1, 99)] [] rfl rfl (Nat.le_of_ble_eq_true rfl) dX8_set_32 rfl (Nat.le_of_ble_eq_true rfl) (by omega) (loc1 := [(1, v), (9, 0), (1, 0), (9, 0), (1, 99), (9, 0)]) rfl ?_
    refine sp_in v 0 99 (fun i32 => ?_) (fun i32 => ?_)
    · refine wp_if_eq (tgt := 52) dX8_set_35 (by decide) (fun h => absurd h (by decide)) (fun _ => ?_)
      refine wp_iload_n dX8_set_38 rfl rfl ?_
      refine wp_iconst dX8_set_39 (by decide) ?_
      refine wp_icmp_ne (tgt := 55) dX8_set_40 (by decide) (fun _ => ?_) (fun h => absurd h (by decide))
      refine wp_aload_n dX8_set_55 rfl rfl ?_
      refine wp_iload_n dX8_set_56 rfl rfl ?_
      refine wp_iload_n dX8_set_57 rfl rfl ?_
      refine wp_callV0 (d' := d - 1) cv_RX8_105 69 rfl [(0, o), (0, 3)] [] rfl rfl (Or.inl ⟨_, _, rfl, by decide, rfl, by omega, by omega⟩) (by omega) (Nat.le_of_ble_eq_true rfl) dX8_set_58 rfl (Nat.le_of_ble_eq_true rfl) (by omega) (loc1 := [(2, 69), (0, o), (0, 3)]) rfl ?_
      refine sp_tolm_3 hn hI (by omega) o (fun M1 F1 => ?_)
      have I1 := hI.frs F1
      obtain ⟨R1, A1, _, _, _⟩ := id I1
      rw [show toldA E A o 3 = wasA A 3 o from (if_neg (by decide)).trans ((if_neg (by omega)).trans rfl)]
      refine wp_istore (loc' := [(2, 69), (0, 3), (0, o), (0, v), (0, (wasA A 3 o))]) dX8_set_61 (Nat.le_of_ble_eq_true rfl) rfl ?_
      refine wp_aload_n dX8_set_63 rfl rfl ?_
      refine wp_iload_n dX8_set_64 rfl rfl ?_
      refine wp_iload_n dX8_set_65 rfl rfl ?_
      refine wp_iload_n dX8_set_66 rfl rfl ?_
      refine wp_callV0 (d' := d - 1) cv_RX8_109 69 rfl [(0, 3), (0, o), (0, v)] [] rfl rfl (Or.inl ⟨_, _, rfl, by decide, rfl, by omega, by omega⟩) (by omega) (Nat.le_of_ble_eq_true rfl) dX8_set_67 rfl (Nat.le_of_ble_eq_true rfl) (by omega) (loc1 := [(2, 69), (0, 3), (0, o), (0, v)]) rfl ?_
      refine wp_iload_n dX8_lays_0 rfl rfl ?_
      refine wp_if_ne (tgt := 12) dX8_lays_1 (by decide) (fun _ => ?_) (fun h => absurd h (by decide))
      refine wp_iload_n dX8_lays_12 rfl rfl ?_
      refine wp_iconst dX8_lays_13 (by decide) ?_
      refine wp_icmp_ge (tgt := 33) dX8_lays_14 (by decide) (fun h => absurd h (by decide)) (fun _ => ?_)
      refine wp_aload_n dX8_lays_17 rfl rfl ?_
      refine wp_get 69 rfl fl_RX8_26 rfl ⟨by omega, by omega⟩ dX8_lays_18 rfl (v := 74) (sr_69_9 (M := M1) R1) ?_
      refine wp_iconst dX8_lays_21 (by decide) ?_
      refine wp_iload_n dX8_lays_22 rfl rfl ?_
      refine wp_imul dX8_lays_23 (by omega) ?_
      refine wp_iload_n dX8_lays_24 rfl rfl ?_
      refine wp_iadd dX8_lays_25 (by omega) ?_
      refine wp_iconst dX8_lays_26 (by decide) ?_
      refine wp_isub dX8_lays_27 (by omega) ?_
      refine wp_iload_n dX8_lays_28 rfl rfl ?_
      refine wp_iast 74 rfl rfl ⟨by omega, by omega⟩ ⟨by omega, by omega⟩ dX8_lays_29 (jn := (4 * o.toNat + 2)) (by omega) ?_
      refine wp_goto (tgt := 53) dX8_lays_30 (by decide) ?_
      refine wp_vret rfl dX8_lays_53 ?_
      refine wp_iload dX8_set_70 rfl ?_
      refine wp_iret rfl dX8_set_72 ?_
      have g1 : Fr VMl M (mu M1 74 (4 * o.toNat + 2) v) := (F1.mono VMs.l).put (by unfold VMl VMs; omega)
      have hok : okSet A 3 o v := by unfold okSet; omega
      exact k hok _ (hI.new g1 (A1.setR (r := 2) (i := o.toNat) (by omega)) (hW.aSet (r := 3) (by omega) (fun h => by omega)) hr) g1
    · refine wp_if_eq (tgt := 52) dX8_set_35 (by decide) (fun _ => ?_) (fun h => absurd h (by decide))
      refine wp_bipush dX8_set_52 (by decide) (by decide) ?_
      refine wp_iret rfl dX8_set_54 ?_
      refine kB (fun h => ?_)
      unfold okSet at h
      omega
  · refine wp_if_eq (tgt := 52) dX8_set_21 (by decide) (fun _ => ?_) (fun h => absurd h (by decide))
    refine wp_bipush dX8_set_52 (by decide) (by decide) ?_
    refine wp_iret rfl dX8_set_54 ?_
    refine kB (fun h => ?_)
    unfold okSet at h
    omega
set_option maxRecDepth 20000 in
set_option maxHeartbeats 4000000 in
theorem sp_setm_4 {l : Launch} {g : Gw} {d n : Nat} {M : Mm} {Q : Option Wd → Mm → Prop} (hn : 90 ≤ n) {A : Ls} {E : Ev} (hI : MJ M A E) (hd : 70 ≤ d) (o v : Int) (kB : ¬ okSet A 4 o v → Q (some (0, -2)) M) (k : okSet A 4 o v → ∀ M', MJ M' (stA A 4 o v) E → Fr VMl M M' → Q (some (0, wasA A 4 o)) M') : Wp l g d 0 0 n m_X8_set 0 [] [(2, 69), (0, 4), (0, o), (0, v), (9, 0)] M Q := by
  obtain ⟨hR, hA, hW, hr, hX⟩ := id hI
  have w2 := hW.1
  have w5 := hW.2.1
  have w3 := hW.2.2.1
  have w32 := hW.2.2.2.1
  refine wp_iload_n dX8_set_0 rfl rfl ?_
  refine wp_i2l dX8_set_1 ?_
  refine wp_lconst (v := 0) dX8_set_2 (by decide) (by decide) ?_
  refine wp_ldc2 (x := 4) dX8_set_3 kl_RX8_95 (by decide) (wr_l (by omega)) ?_
  refine wp_callS0 (d' := d - 1) cs_RX8_91 [(1, 4), (1, 0), (1, 4)] [] rfl rfl (Nat.le_of_ble_eq_true rfl) dX8_set_6 rfl (Nat.le_of_ble_eq_true rfl) (by omega) (loc1 := [(1, 4), (9, 0), (1, 0), (9, 0), (1, 4), (9, 0)]) rfl ?_
  refine sp_in 4 0 4 (fun _ => ?_) (fun h => absurd (by decide) h)
  refine wp_if_eq (tgt := 52) dX8_set_9 (by decide) (fun h => absurd h (by decide)) (fun _ => ?_)
  refine wp_iload_n dX8_set_12 rfl rfl ?_
  refine wp_if_le (tgt := 24) dX8_set_13 (by decide) (fun h => absurd h (by decide)) (fun _ => ?_)
  refine wp_aload_n dX8_set_16 rfl rfl ?_
  refine wp_iload_n dX8_set_17 rfl rfl ?_
  refine wp_callV0 (d' := d - 1) cv_RX8_97 69 rfl [(0, o)] [] rfl rfl (Or.inl ⟨_, _, rfl, by decide, rfl, by omega, by omega⟩) (by omega) (Nat.le_of_ble_eq_true rfl) dX8_set_18 rfl (Nat.le_of_ble_eq_true rfl) (by omega) (loc1 := [(2, 69), (0, o)]) rfl ?_
  refine sp_isOne hn hI (by omega) o (fun o18 => ?_) (fun o18 => ?_)
  · refine wp_if_eq (tgt := 52) dX8_set_21 (by decide) (fun h => absurd h (by decide)) (fun _ => ?_)
    refine wp_iload_n dX8_set_24 rfl rfl ?_
    refine wp_i2l dX8_set_25 ?_
    refine wp_lconst (v := 0) dX8_set_26 (by decide) (by decide) ?_
    refine wp_iload_n dX8_set_27 rfl rfl ?_
    refine wp_callS0 (d' := d - 1) cs_RX8_101 [(0, 4)] [(1, 0), (1, v)] rfl rfl (Nat.le_of_ble_eq_true rfl) dX8_set_28 rfl (Nat.le_of_ble_eq_true rfl) (by omega) (loc1 := [(0, 4)]) rfl ?_
    refine wp_iload_n dX8_mostOf_0 rfl rfl ?_
    refine wp_if_ne (tgt := 10) dX8_mostOf_1 (by decide) (fun _ => ?_) (fun h => absurd h (by decide))
    refine wp_iload_n dX8_mostOf_10 rfl rfl ?_
    refine wp_iconst dX8_mostOf_11 (by decide) ?_
    refine wp_icmp_ne (tgt := 20) dX8_mostOf_12 (by decide) (fun _ => ?_) (fun h => absurd h (by decide))
    refine wp_iload_n dX8_mostOf_20 rfl rfl ?_
    refine wp_iconst dX8_mostOf_21 (by decide) ?_
    refine wp_icmp_ne (tgt := 30) dX8_mostOf_22 (by decide) (fun _ => ?_) (fun h => absurd h (by decide))
    refine wp_iload_n dX8_mostOf_30 rfl rfl ?_
    refine wp_iconst dX8_mostOf_31 (by decide) ?_
    refine wp_icmp_ne (tgt := 40) dX8_mostOf_32 (by decide) (fun _ => ?_) (fun h => absurd h (by decide))
    refine wp_bipush dX8_mostOf_40 (by decide) (by decide) ?_
    refine wp_iret rfl dX8_mostOf_42 ?_
    refine wp_i2l dX8_set_31 ?_
    refine wp_callS0 (d' := d - 1) cs_RX8_91 [(1, v), (1, 0), (1, 40)] [] rfl rfl (Nat.le_of_ble_eq_true rfl) dX8_set_32 rfl (Nat.le_of_ble_eq_true rfl) (by omega) (loc1 := [(1, v), (9, 0), (1, 0), (9, 0), (1, 40), (9, 0)]) rfl ?_
    refine sp_in v 0 40 (fun i32 => ?_) (fun i32 => ?_)
    · refine wp_if_eq (tgt := 52) dX8_set_35 (by decide) (fun h => absurd h (by decide)) (fun _ => ?_)
      refine wp_iload_n dX8_set_38 rfl rfl ?_
      refine wp_iconst dX8_set_39 (by decide) ?_
      refine wp_icmp_ne (tgt := 55) dX8_set_40 (by decide) (fun _ => ?_) (fun h => absurd h (by decide))
      refine wp_aload_n dX8_set_55 rfl rfl ?_
      refine wp_iload_n dX8_set_56 rfl rfl ?_
      refine wp_iload_n dX8_set_57 rfl rfl ?_
      refine wp_callV0 (d' := d - 1) cv_RX8_105 69 rfl [(0, o), (0, 4)] [] rfl rfl (Or.inl ⟨_, _, rfl, by decide, rfl, by omega, by omega⟩) (by omega) (Nat.le_of_ble_eq_true rfl) dX8_set_58 rfl (Nat.le_of_ble_eq_true rfl) (by omega) (loc1 := [(2, 69), (0, o), (0, 4)]) rfl ?_
      refine sp_tolm_4 hn hI (by omega) o (fun M1 F1 => ?_)
      have I1 := hI.frs F1
      obtain ⟨R1, A1, _, _, _⟩ := id I1
      rw [show toldA E A o 4 = wasA A 4 o from (if_neg (by decide)).trans ((if_neg (by omega)).trans rfl)]
      refine wp_istore (loc' := [(2, 69), (0, 4), (0, o), (0, v), (0, (wasA A 4 o))]) dX8_set_61 (Nat.le_of_ble_eq_true rfl) rfl ?_
      refine wp_aload_n dX8_set_63 rfl rfl ?_
      refine wp_iload_n dX8_set_64 rfl rfl ?_
      refine wp_iload_n dX8_set_65 rfl rfl ?_
      refine wp_iload_n dX8_set_66 rfl rfl ?_
      refine wp_callV0 (d' := d - 1) cv_RX8_109 69 rfl [(0, 4), (0, o), (0, v)] [] rfl rfl (Or.inl ⟨_, _, rfl, by decide, rfl, by omega, by omega⟩) (by omega) (Nat.le_of_ble_eq_true rfl) dX8_set_67 rfl (Nat.le_of_ble_eq_true rfl) (by omega) (loc1 := [(2, 69), (0, 4), (0, o), (0, v)]) rfl ?_
      refine wp_iload_n dX8_lays_0 rfl rfl ?_
      refine wp_if_ne (tgt := 12) dX8_lays_1 (by decide) (fun _ => ?_) (fun h => absurd h (by decide))
      refine wp_iload_n dX8_lays_12 rfl rfl ?_
      refine wp_iconst dX8_lays_13 (by decide) ?_
      refine wp_icmp_ge (tgt := 33) dX8_lays_14 (by decide) (fun h => absurd h (by decide)) (fun _ => ?_)
      refine wp_aload_n dX8_lays_17 rfl rfl ?_
      refine wp_get 69 rfl fl_RX8_26 rfl ⟨by omega, by omega⟩ dX8_lays_18 rfl (v := 74) (sr_69_9 (M := M1) R1) ?_
      refine wp_iconst dX8_lays_21 (by decide) ?_
      refine wp_iload_n dX8_lays_22 rfl rfl ?_
      refine wp_imul dX8_lays_23 (by omega) ?_
      refine wp_iload_n dX8_lays_24 rfl rfl ?_
      refine wp_iadd dX8_lays_25 (by omega) ?_
      refine wp_iconst dX8_lays_26 (by decide) ?_
      refine wp_isub dX8_lays_27 (by omega) ?_
      refine wp_iload_n dX8_lays_28 rfl rfl ?_
      refine wp_iast 74 rfl rfl ⟨by omega, by omega⟩ ⟨by omega, by omega⟩ dX8_lays_29 (jn := (4 * o.toNat + 3)) (by omega) ?_
      refine wp_goto (tgt := 53) dX8_lays_30 (by decide) ?_
      refine wp_vret rfl dX8_lays_53 ?_
      refine wp_iload dX8_set_70 rfl ?_
      refine wp_iret rfl dX8_set_72 ?_
      have g1 : Fr VMl M (mu M1 74 (4 * o.toNat + 3) v) := (F1.mono VMs.l).put (by unfold VMl VMs; omega)
      have hok : okSet A 4 o v := by unfold okSet; omega
      exact k hok _ (hI.new g1 (A1.setR (r := 3) (i := o.toNat) (by omega)) (hW.aSet (r := 4) (by omega) (fun h => by omega)) hr) g1
    · refine wp_if_eq (tgt := 52) dX8_set_35 (by decide) (fun _ => ?_) (fun h => absurd h (by decide))
      refine wp_bipush dX8_set_52 (by decide) (by decide) ?_
      refine wp_iret rfl dX8_set_54 ?_
      refine kB (fun h => ?_)
      unfold okSet at h
      omega
  · refine wp_if_eq (tgt := 52) dX8_set_21 (by decide) (fun _ => ?_) (fun h => absurd h (by decide))
    refine wp_bipush dX8_set_52 (by decide) (by decide) ?_
    refine wp_iret rfl dX8_set_54 ?_
    refine kB (fun h => ?_)
    unfold okSet at h
    omega
set_option maxRecDepth 20000 in
set_option maxHeartbeats 4000000 in
theorem cm_set {l : Launch} {g : Gw} {d n : Nat} {M : Mm} {Q : Option Wd → Mm → Prop} (hn : 90 ≤ n) {A : Ls} {E : Ev} (hI : MJ M A E) (hd : 70 ≤ d) (w o v : Int) (kB : ¬ okSet A w o v → Q (some (0, -2)) M) (k : okSet A w o v → ∀ M', MJ M' (stA A w o v) E → Fr VMl M M' → Q (some (0, wasA A w o)) M') : Wp l g d 0 0 n m_X8_set 0 [] [(2, 69), (0, w), (0, o), (0, v), (9, 0)] M Q := by
  obtain ⟨hR, hA, hW, hr, hX⟩ := id hI
  have w2 := hW.1
  have w5 := hW.2.1
  have w3 := hW.2.2.1
  have w32 := hW.2.2.2.1
  by_cases hw : w < 0 ∨ 4 < w
  · refine wp_iload_n dX8_set_0 rfl rfl ?_
    refine wp_i2l dX8_set_1 ?_
    refine wp_lconst (v := 0) dX8_set_2 (by decide) (by decide) ?_
    refine wp_ldc2 (x := 4) dX8_set_3 kl_RX8_95 (by decide) (wr_l (by omega)) ?_
    refine wp_callS0 (d' := d - 1) cs_RX8_91 [(1, w), (1, 0), (1, 4)] [] rfl rfl (Nat.le_of_ble_eq_true rfl) dX8_set_6 rfl (Nat.le_of_ble_eq_true rfl) (by omega) (loc1 := [(1, w), (9, 0), (1, 0), (9, 0), (1, 4), (9, 0)]) rfl ?_
    refine sp_in w 0 4 (fun h => absurd h (by omega)) (fun _ => ?_)
    refine wp_if_eq (tgt := 52) dX8_set_9 (by decide) (fun _ => ?_) (fun h => absurd h (by decide))
    refine wp_bipush dX8_set_52 (by decide) (by decide) ?_
    refine wp_iret rfl dX8_set_54 ?_
    exact kB (fun h => by unfold okSet at h; omega)
  · rcases (show w = 0 ∨ w = 1 ∨ w = 2 ∨ w = 3 ∨ w = 4 by omega) with rfl | rfl | rfl | rfl | rfl
    · exact sp_setm_0 hn hI hd o v kB k
    · exact sp_setm_1 hn hI hd o v kB k
    · exact sp_setm_2 hn hI hd o v kB k
    · exact sp_setm_3 hn hI hd o v kB k
    · exact sp_setm_4 hn hI hd o v kB k
theorem Rm.bear {M : Mm} {A : Ls} (h : Rm M A) {N L : Nat} (hN : A.1 2 = (N : Int)) (hL : A.1 3 = (L : Int)) (c u : Int) : Rm (mu (mu (mu (mu (mu (mu (mu (mu M 73 N c) 74 (4 * N) u) 74 (4 * N + 1) 0) 74 (4 * N + 2) 0) 74 (4 * N + 3) 0) 75 L (N : Int)) 69 12 ((L : Int) + 1)) 69 10 ((N : Int) + 1)) (bearA A c u) := by
  obtain ⟨a, b, c', d, x, y, z⟩ := h
  have n2 : (A.1 2).toNat = N := by omega
  have n3 : (A.1 3).toNat = L := by omega
  refine ⟨a, b, ?_, ?_, fun k hk => ?_, fun s k hs hk => ?_, fun q hq => ?_⟩
  · show (N : Int) + 1 = A.1 2 + 1
    omega
  · show (L : Int) + 1 = A.1 3 + 1
    omega
  · have hk : (k : Int) < A.1 2 + 1 := hk
    show mu M 73 N c 73 k = (if k = (A.1 2).toNat then c else A.2 0 k)
    rw [n2]
    by_cases e : k = N
    · subst e
      rw [mu_self, if_pos rfl]
    · rw [mu_nj _ _ _ e, if_neg e]
      exact x k (by omega)
  · have hk : (k : Int) < A.1 2 + 1 := hk
    show mu (mu (mu (mu (mu M 73 N c) 74 (4 * N) u) 74 (4 * N + 1) 0) 74 (4 * N + 2) 0) 74 (4 * N + 3) 0 74 (4 * k + s) = (if s + 1 = 5 then _ else if k = (A.1 2).toNat then (if s + 1 = 0 then c else if s + 1 = 1 then u else 0) else A.2 (s + 1) k)
    rw [n2, if_neg (by omega)]
    by_cases e : k = N
    · subst e
      rw [if_pos rfl, if_neg (by omega)]
      rcases (show s = 0 ∨ s = 1 ∨ s = 2 ∨ s = 3 by omega) with rfl | rfl | rfl | rfl
      · rw [if_pos rfl, mu_nj _ _ _ (by omega), mu_nj _ _ _ (by omega), mu_nj _ _ _ (by omega)]
        exact mu_self _ _ _ _
      · rw [if_neg (by decide), mu_nj _ _ _ (by omega), mu_nj _ _ _ (by omega), mu_self]
      · rw [if_neg (by decide), mu_nj _ _ _ (by omega), mu_self]
      · rw [if_neg (by decide), mu_self]
    · rw [if_neg e, mu_nj _ _ _ (by omega), mu_nj _ _ _ (by omega), mu_nj _ _ _ (by omega), mu_nj _ _ _ (by omega)]
      exact y s k hs (by omega)
  · have hq : (q : Int) < A.1 3 + 1 := hq
    show mu _ 75 L (N : Int) 75 q = (if q = (A.1 3).toNat then A.1 2 else A.2 5 q)
    rw [n3]
    by_cases e : q = L
    · subst e
      rw [mu_self, if_pos rfl]
      exact hN.symm
    · rw [mu_nj _ _ _ e, if_neg e]
      exact z q (by omega)
set_option maxRecDepth 20000 in
set_option maxHeartbeats 4000000 in
theorem cm_person {l : Launch} {g : Gw} {d n : Nat} {M : Mm} {Q : Option Wd → Mm → Prop} (hn : 90 ≤ n) {A : Ls} {E : Ev} (hI : MJ M A E) (hd : 70 ≤ d) (x y : Int) (k : ∀ M', MJ M' (prsA A x y).1 E → Fr VMl M M' → Q (some (0, (prsA A x y).2)) M') : Wp l g d 0 0 n m_X8_person 0 [] [(2, 69), (0, x), (0, y)] M Q := by
  obtain ⟨hR, hA, hW, hr, hX⟩ := id hI
  have w2 := hW.1
  have w5 := hW.2.1
  have w3 := hW.2.2.1
  have w32 := hW.2.2.2.1
  obtain ⟨N, hN⟩ := Int.eq_ofNat_of_zero_le w2
  obtain ⟨L, hL⟩ := Int.eq_ofNat_of_zero_le w3
  refine wp_iload_n dX8_person_0 rfl rfl ?_
  refine wp_i2l dX8_person_1 ?_
  refine wp_lconst (v := 0) dX8_person_2 (by decide) (by decide) ?_
  refine wp_ldc2 (x := 5) dX8_person_3 kl_RX8_119 (by decide) (wr_l (by omega)) ?_
  refine wp_callS0 (d' := d - 1) cs_RX8_91 [(1, x), (1, 0), (1, 5)] [] rfl rfl (Nat.le_of_ble_eq_true rfl) dX8_person_6 rfl (Nat.le_of_ble_eq_true rfl) (by omega) (loc1 := [(1, x), (9, 0), (1, 0), (9, 0), (1, 5), (9, 0)]) rfl ?_
  refine sp_in x 0 5 (fun i6 => ?_) (fun i6 => ?_)
  · refine wp_if_eq (tgt := 24) dX8_person_9 (by decide) (fun h => absurd h (by decide)) (fun _ => ?_)
    refine wp_iload_n dX8_person_12 rfl rfl ?_
    refine wp_i2l dX8_person_13 ?_
    refine wp_lconst (v := 0) dX8_person_14 (by decide) (by decide) ?_
    refine wp_ldc2 (x := 9) dX8_person_15 kl_RX8_121 (by decide) (wr_l (by omega)) ?_
    refine wp_callS0 (d' := d - 1) cs_RX8_91 [(1, y), (1, 0), (1, 9)] [] rfl rfl (Nat.le_of_ble_eq_true rfl) dX8_person_18 rfl (Nat.le_of_ble_eq_true rfl) (by omega) (loc1 := [(1, y), (9, 0), (1, 0), (9, 0), (1, 9), (9, 0)]) rfl ?_
    refine sp_in y 0 9 (fun i18 => ?_) (fun i18 => ?_)
    · refine wp_if_ne (tgt := 27) dX8_person_21 (by decide) (fun _ => ?_) (fun h => absurd h (by decide))
      refine wp_aload_n dX8_person_27 rfl rfl ?_
      refine wp_get 69 rfl fl_RX8_88 rfl ⟨by omega, by omega⟩ dX8_person_28 rfl (v := (N : Int)) ((hA.2.2.1.trans hN)) ?_
      refine wp_iconst dX8_person_31 (by decide) ?_
      refine wp_icmp_ne (tgt := 38) dX8_person_32 (by decide) (fun h32 => ?_) (fun h32 => ?_)
      · refine wp_aload_n dX8_person_38 rfl rfl ?_
        refine wp_get 69 rfl fl_RX8_23 rfl ⟨by omega, by omega⟩ dX8_person_39 rfl (v := 73) (sr_69_8 (M := M) hR) ?_
        refine wp_aload_n dX8_person_42 rfl rfl ?_
        refine wp_get 69 rfl fl_RX8_88 rfl ⟨by omega, by omega⟩ dX8_person_43 rfl (v := (N : Int)) ((hA.2.2.1.trans hN)) ?_
        refine wp_iload_n dX8_person_46 rfl rfl ?_
        refine wp_iast 73 rfl rfl ⟨by omega, by omega⟩ ⟨by omega, by omega⟩ dX8_person_47 (jn := N) rfl ?_
        refine wp_aload_n dX8_person_48 rfl rfl ?_
        refine wp_get 69 rfl fl_RX8_26 rfl ⟨by omega, by omega⟩ dX8_person_49 rfl (v := 74) (sr_69_9 (M := M) hR) ?_
        refine wp_iconst dX8_person_52 (by decide) ?_
        refine wp_aload_n dX8_person_53 rfl rfl ?_
        refine wp_get 69 rfl fl_RX8_88 rfl ⟨by omega, by omega⟩ dX8_person_54 rfl (v := (N : Int)) ((hA.2.2.1.trans hN)) ?_
        refine wp_imul dX8_person_57 (by omega) ?_
        refine wp_iload_n dX8_person_58 rfl rfl ?_
        refine wp_iast 74 rfl rfl ⟨by omega, by omega⟩ ⟨by omega, by omega⟩ dX8_person_59 (jn := (4 * N)) (by omega) ?_
        refine wp_aload_n dX8_person_60 rfl rfl ?_
        refine wp_get 69 rfl fl_RX8_26 rfl ⟨by omega, by omega⟩ dX8_person_61 rfl (v := 74) (sr_69_9 (M := M) hR) ?_
        refine wp_iconst dX8_person_64 (by decide) ?_
        refine wp_aload_n dX8_person_65 rfl rfl ?_
        refine wp_get 69 rfl fl_RX8_88 rfl ⟨by omega, by omega⟩ dX8_person_66 rfl (v := (N : Int)) ((hA.2.2.1.trans hN)) ?_
        refine wp_imul dX8_person_69 (by omega) ?_
        refine wp_iconst dX8_person_70 (by decide) ?_
        refine wp_iadd dX8_person_71 (by omega) ?_
        refine wp_iconst dX8_person_72 (by decide) ?_
        refine wp_iast 74 rfl rfl ⟨by omega, by omega⟩ ⟨by omega, by omega⟩ dX8_person_73 (jn := (4 * N + 1)) (by omega) ?_
        refine wp_aload_n dX8_person_74 rfl rfl ?_
        refine wp_get 69 rfl fl_RX8_26 rfl ⟨by omega, by omega⟩ dX8_person_75 rfl (v := 74) (sr_69_9 (M := M) hR) ?_
        refine wp_iconst dX8_person_78 (by decide) ?_
        refine wp_aload_n dX8_person_79 rfl rfl ?_
        refine wp_get 69 rfl fl_RX8_88 rfl ⟨by omega, by omega⟩ dX8_person_80 rfl (v := (N : Int)) ((hA.2.2.1.trans hN)) ?_
        refine wp_imul dX8_person_83 (by omega) ?_
        refine wp_iconst dX8_person_84 (by decide) ?_
        refine wp_iadd dX8_person_85 (by omega) ?_
        refine wp_iconst dX8_person_86 (by decide) ?_
        refine wp_iast 74 rfl rfl ⟨by omega, by omega⟩ ⟨by omega, by omega⟩ dX8_person_87 (jn := (4 * N + 2)) (by omega) ?_
        refine wp_aload_n dX8_person_88 rfl rfl ?_
        refine wp_get 69 rfl fl_RX8_26 rfl ⟨by omega, by omega⟩ dX8_person_89 rfl (v := 74) (sr_69_9 (M := M) hR) ?_
        refine wp_iconst dX8_person_92 (by decide) ?_
        refine wp_aload_n dX8_person_93 rfl rfl ?_
        refine wp_get 69 rfl fl_RX8_88 rfl ⟨by omega, by omega⟩ dX8_person_94 rfl (v := (N : Int)) ((hA.2.2.1.trans hN)) ?_
        refine wp_imul dX8_person_97 (by omega) ?_
        refine wp_iconst dX8_person_98 (by decide) ?_
        refine wp_iadd dX8_person_99 (by omega) ?_
        refine wp_iconst dX8_person_100 (by decide) ?_
        refine wp_iast 74 rfl rfl ⟨by omega, by omega⟩ ⟨by omega, by omega⟩ dX8_person_101 (jn := (4 * N + 3)) (by omega) ?_
        refine wp_aload_n dX8_person_102 rfl rfl ?_
        refine wp_get 69 rfl fl_RX8_29 rfl ⟨by omega, by omega⟩ dX8_person_103 rfl (v := 75) (sr_69_11 (M := M) hR) ?_
        refine wp_aload_n dX8_person_106 rfl rfl ?_
        refine wp_get 69 rfl fl_RX8_123 rfl ⟨by omega, by omega⟩ dX8_person_107 rfl (v := (L : Int)) ((hA.2.2.2.1.trans hL)) ?_
        refine wp_aload_n dX8_person_110 rfl rfl ?_
        refine wp_get 69 rfl fl_RX8_88 rfl ⟨by omega, by omega⟩ dX8_person_111 rfl (v := (N : Int)) ((hA.2.2.1.trans hN)) ?_
        refine wp_iast 75 rfl rfl ⟨by omega, by omega⟩ ⟨by omega, by omega⟩ dX8_person_114 (jn := L) rfl ?_
        refine wp_aload_n dX8_person_115 rfl rfl ?_
        refine wp_dup dX8_person_116 (Or.inr rfl) ?_
        refine wp_get 69 rfl fl_RX8_123 rfl ⟨by omega, by omega⟩ dX8_person_117 rfl (v := (L : Int)) ((hA.2.2.2.1.trans hL)) ?_
        refine wp_iconst dX8_person_120 (by decide) ?_
        refine wp_iadd dX8_person_121 (by omega) ?_
        refine wp_puti 69 rfl fl_RX8_123 rfl ⟨by omega, by omega⟩ dX8_person_122 rfl rfl ?_
        refine wp_aload_n dX8_person_125 rfl rfl ?_
        refine wp_dup dX8_person_126 (Or.inr rfl) ?_
        refine wp_get 69 rfl fl_RX8_88 rfl ⟨by omega, by omega⟩ dX8_person_127 rfl (v := (N : Int)) ((hA.2.2.1.trans hN)) ?_
        refine wp_iconst dX8_person_130 (by decide) ?_
        refine wp_iadd dX8_person_131 (by omega) ?_
        refine wp_puti 69 rfl fl_RX8_88 rfl ⟨by omega, by omega⟩ dX8_person_132 rfl rfl ?_
        refine wp_aload_n dX8_person_135 rfl rfl ?_
        refine wp_get 69 rfl fl_RX8_88 rfl ⟨by omega, by omega⟩ dX8_person_136 rfl (v := ((N : Int) + 1)) (rfl) ?_
        refine wp_iconst dX8_person_139 (by decide) ?_
        refine wp_isub dX8_person_140 (by omega) ?_
        refine wp_iret rfl dX8_person_141 ?_
        have ep : prsA A x y = (bearA A x y, A.1 2) := (if_neg (by omega)).trans (if_neg (by omega))
        rw [ep, hN] at k
        have g1 : Fr VMl M (mu (mu (mu (mu (mu (mu (mu (mu M 73 N x) 74 (4 * N) y) 74 (4 * N + 1) 0) 74 (4 * N + 2) 0) 74 (4 * N + 3) 0) 75 L (N : Int)) 69 12 ((L : Int) + 1)) 69 10 ((N : Int) + 1)) := (((((((((Fr.rf : Fr VMl M M).put (by unfold VMl VMs; omega)).put (by unfold VMl VMs; omega)).put (by unfold VMl VMs; omega)).put (by unfold VMl VMs; omega)).put (by unfold VMl VMs; omega)).put (by unfold VMl VMs; omega)).put (by unfold VMl VMs; omega)).put (by unfold VMl VMs; omega))
        rw [show ((N : Int) + 1) - 1 = (N : Int) by omega]
        exact k _ (hI.new g1 (hA.bear hN hL x y) (hW.bear (by omega) (by omega)) hr) g1
      · refine wp_bipush dX8_person_35 (by decide) (by decide) ?_
        refine wp_iret rfl dX8_person_37 ?_
        have ep : prsA A x y = (A, -4) := (if_neg (by omega)).trans (if_pos (by omega))
        rw [ep] at k
        exact k M hI Fr.rf
    · refine wp_if_ne (tgt := 27) dX8_person_21 (by decide) (fun h => absurd h (by decide)) (fun _ => ?_)
      refine wp_bipush dX8_person_24 (by decide) (by decide) ?_
      refine wp_iret rfl dX8_person_26 ?_
      have q := k M (by rw [show prsA A x y = (A, -2) from if_pos (by omega)]; exact hI) Fr.rf
      rw [show prsA A x y = (A, -2) from if_pos (by omega)] at q
      exact q
  · refine wp_if_eq (tgt := 24) dX8_person_9 (by decide) (fun _ => ?_) (fun h => absurd h (by decide))
    refine wp_bipush dX8_person_24 (by decide) (by decide) ?_
    refine wp_iret rfl dX8_person_26 ?_
    have q := k M (by rw [show prsA A x y = (A, -2) from if_pos (by omega)]; exact hI) Fr.rf
    rw [show prsA A x y = (A, -2) from if_pos (by omega)] at q
    exact q
set_option maxRecDepth 20000 in
set_option maxHeartbeats 4000000 in
theorem cm_first {l : Launch} {g : Gw} {d n : Nat} {M : Mm} {Q : Option Wd → Mm → Prop} (hn : 90 ≤ n) {A : Ls} {E : Ev} (hI : MJ M A E) (hd : 70 ≤ d) (x : Int) (kB : ¬ (0 ≤ x ∧ x ≤ 4) → Q (some (0, -2)) M) (kN : (0 ≤ x ∧ x ≤ 4) → A.1 3 ≤ x → Q (some (0, -1)) M) (k : (0 ≤ x ∧ x ≤ 4) → x < A.1 3 → Q (some (0, A.2 5 x.toNat)) M) : Wp l g d 0 0 n m_X8_first 0 [] [(2, 69), (0, x)] M Q := by
  obtain ⟨hR, hA, hW, hr, hX⟩ := id hI
  have w2 := hW.1
  have w5 := hW.2.1
  have w3 := hW.2.2.1
  have w32 := hW.2.2.2.1
  refine wp_iload_n dX8_first_0 rfl rfl ?_
  refine wp_i2l dX8_first_1 ?_
  refine wp_lconst (v := 0) dX8_first_2 (by decide) (by decide) ?_
  refine wp_ldc2 (x := 4) dX8_first_3 kl_RX8_95 (by decide) (wr_l (by omega)) ?_
  refine wp_callS0 (d' := d - 1) cs_RX8_91 [(1, x), (1, 0), (1, 4)] [] rfl rfl (Nat.le_of_ble_eq_true rfl) dX8_first_6 rfl (Nat.le_of_ble_eq_true rfl) (by omega) (loc1 := [(1, x), (9, 0), (1, 0), (9, 0), (1, 4), (9, 0)]) rfl ?_
  refine sp_in x 0 4 (fun i6 => ?_) (fun i6 => ?_)
  · refine wp_if_ne (tgt := 17) dX8_first_9 (by decide) (fun _ => ?_) (fun h => absurd h (by decide))
    refine wp_iload_n dX8_first_17 rfl rfl ?_
    refine wp_aload_n dX8_first_18 rfl rfl ?_
    refine wp_get 69 rfl fl_RX8_123 rfl ⟨by omega, by omega⟩ dX8_first_19 rfl (v := (A.1 3)) (hA.2.2.2.1) ?_
    refine wp_icmp_ge (tgt := 34) dX8_first_22 (by decide) (fun h22 => ?_) (fun h22 => ?_)
    · refine wp_iconst dX8_first_34 (by decide) ?_
      refine wp_iret rfl dX8_first_35 ?_
      exact kN (by omega) (by omega)
    · refine wp_aload_n dX8_first_25 rfl rfl ?_
      refine wp_get 69 rfl fl_RX8_29 rfl ⟨by omega, by omega⟩ dX8_first_26 rfl (v := 75) (sr_69_11 (M := M) hR) ?_
      refine wp_iload_n dX8_first_29 rfl rfl ?_
      refine wp_iald 75 rfl rfl ⟨by omega, by omega⟩ ⟨by omega, by omega⟩ dX8_first_30 (v := (A.2 5 x.toNat)) (by rw [show (x).toNat = x.toNat by omega]; exact hA.2.2.2.2.2.2 x.toNat (by omega)) ?_
      refine wp_goto (tgt := 35) dX8_first_31 (by decide) ?_
      refine wp_iret rfl dX8_first_35 ?_
      exact k (by omega) (by omega)
  · refine wp_if_ne (tgt := 17) dX8_first_9 (by decide) (fun h => absurd h (by decide)) (fun _ => ?_)
    refine wp_bipush dX8_first_12 (by decide) (by decide) ?_
    refine wp_goto (tgt := 35) dX8_first_14 (by decide) ?_
    refine wp_iret rfl dX8_first_35 ?_
    exact kB (by omega)
set_option maxRecDepth 20000 in
set_option maxHeartbeats 4000000 in
theorem sp_srvm {l : Launch} {g : Gw} {d n : Nat} {M : Mm} {Q : Option Wd → Mm → Prop} (hn : 90 ≤ n) {A : Ls} {E : Ev} (hI : MJ M A E) (x : Int) (hx : 0 ≤ x ∧ x < A.1 2) (kt : 0 < A.2 4 x.toNat → Q (some (0, 1)) M) (kf : ¬ 0 < A.2 4 x.toNat → Q (some (0, 0)) M) : Wp l g d 0 0 n m_X8_isServed 0 [] [(2, 69), (0, x)] M Q := by
  obtain ⟨hR, hA, hW, hr, hX⟩ := id hI
  have w2 := hW.1
  have w5 := hW.2.1
  have w3 := hW.2.2.1
  have w32 := hW.2.2.2.1
  refine wp_aload_n dX8_isServed_0 rfl rfl ?_
  refine wp_get 69 rfl fl_RX8_26 rfl ⟨by omega, by omega⟩ dX8_isServed_1 rfl (v := 74) (sr_69_9 (M := M) hR) ?_
  refine wp_iconst dX8_isServed_4 (by decide) ?_
  refine wp_iload_n dX8_isServed_5 rfl rfl ?_
  refine wp_imul dX8_isServed_6 (by omega) ?_
  refine wp_iconst dX8_isServed_7 (by decide) ?_
  refine wp_iadd dX8_isServed_8 (by omega) ?_
  refine wp_iald 74 rfl rfl ⟨by omega, by omega⟩ ⟨by omega, by omega⟩ dX8_isServed_9 (v := (A.2 4 x.toNat)) (by rw [show (((4 * x) + 3)).toNat = (4 * x.toNat + 3) by omega]; exact hA.2.2.2.2.2.1 3 x.toNat (by omega) (by omega)) ?_
  refine wp_if_le (tgt := 17) dX8_isServed_10 (by decide) (fun h10 => ?_) (fun h10 => ?_)
  · refine wp_iconst dX8_isServed_17 (by decide) ?_
    refine wp_zret rfl (by omega) dX8_isServed_18 ?_
    exact kf (by omega)
  · refine wp_iconst dX8_isServed_13 (by decide) ?_
    refine wp_goto (tgt := 18) dX8_isServed_14 (by decide) ?_
    refine wp_zret rfl (by omega) dX8_isServed_18 ?_
    exact kt (by omega)
theorem Rm.swap {M : Mm} {A : Ls} (h : Rm M A) {q : Nat} (h1 : 1 ≤ q) (hq : (q : Int) < A.1 3) : Rm (mu (mu M 75 q (A.2 5 (q - 1))) 75 (q - 1) (A.2 5 q)) (swapA A q) := by
  obtain ⟨a, b, c, d, x, y, z⟩ := h
  refine ⟨a, b, c, d, fun k hk => (x k hk).trans rfl, fun s k hs hk => ?_, fun k hk => ?_⟩
  · show M 74 (4 * k + s) = mu (mu A.2 5 q (A.2 5 (q - 1))) 5 (q - 1) (A.2 5 q) (s + 1) k
    rw [mu_ne _ _ _ (by omega), mu_ne _ _ _ (by omega)]
    exact y s k hs hk
  · show mu (mu M 75 q (A.2 5 (q - 1))) 75 (q - 1) (A.2 5 q) 75 k = mu (mu A.2 5 q (A.2 5 (q - 1))) 5 (q - 1) (A.2 5 q) 5 k
    by_cases e : k = q - 1
    · subst e
      rw [mu_self, mu_self]
    · rw [mu_nj _ _ _ e, mu_nj _ _ _ e]
      by_cases e2 : k = q
      · subst e2
        rw [mu_self, mu_self]
      · rw [mu_nj _ _ _ e2, mu_nj _ _ _ e2]
        exact z k hk
set_option maxRecDepth 20000 in
set_option maxHeartbeats 4000000 in
theorem sp_passm {l : Launch} {g : Gw} {d n : Nat} {M : Mm} {Q : Option Wd → Mm → Prop} (hn : 90 ≤ n) {A : Ls} {E : Ev} (hI : MJ M A E) (hd : 66 ≤ d) {q : Nat} (h1 : 1 ≤ q) (hq : (q : Int) < A.1 3) (kt : cpA E A (q : Int) → ∀ M', MJ M' (swapA A q) E → Fr VMl M M' → Q (some (0, 1)) M') (kf : ¬ cpA E A (q : Int) → ∀ M', MJ M' A E → Fr VMl M M' → Q (some (0, 0)) M') : Wp l g d 0 0 n m_X8_passes 0 [] [(2, 69), (0, (q : Int)), (9, 0)] M Q := by
  obtain ⟨hR, hA, hW, hr, hX⟩ := id hI
  have w2 := hW.1
  have w5 := hW.2.1
  have w3 := hW.2.2.1
  have w32 := hW.2.2.2.1
  have v0 := hW.2.2.2.2.1 0 (by omega)
  have vp := hW.2.2.2.2.1 (q - 1) (by omega)
  have vq := hW.2.2.2.2.1 q (by omega)
  have vn := hW.2.2.2.2.2.1 (q - 1) q (by omega) (by omega)
  refine wp_iload_n dX8_passes_0 rfl rfl ?_
  refine wp_iconst dX8_passes_1 (by decide) ?_
  refine wp_icmp_ne (tgt := 18) dX8_passes_2 (by decide) (fun h2 => ?_) (fun h2 => ?_)
  · refine wp_aload_n dX8_passes_18 rfl rfl ?_
    refine wp_aload_n dX8_passes_19 rfl rfl ?_
    refine wp_get 69 rfl fl_RX8_29 rfl ⟨by omega, by omega⟩ dX8_passes_20 rfl (v := 75) (sr_69_11 (M := M) hR) ?_
    refine wp_iload_n dX8_passes_23 rfl rfl ?_
    refine wp_iconst dX8_passes_24 (by decide) ?_
    refine wp_isub dX8_passes_25 (by omega) ?_
    refine wp_iald 75 rfl rfl ⟨by omega, by omega⟩ ⟨by omega, by omega⟩ dX8_passes_26 (v := (A.2 5 (q - 1))) (by rw [show (((q : Int) - 1)).toNat = (q - 1) by omega]; exact hA.2.2.2.2.2.2 (q - 1) (by omega)) ?_
    refine wp_aload_n dX8_passes_27 rfl rfl ?_
    refine wp_get 69 rfl fl_RX8_29 rfl ⟨by omega, by omega⟩ dX8_passes_28 rfl (v := 75) (sr_69_11 (M := M) hR) ?_
    refine wp_iload_n dX8_passes_31 rfl rfl ?_
    refine wp_iald 75 rfl rfl ⟨by omega, by omega⟩ ⟨by omega, by omega⟩ dX8_passes_32 (v := (A.2 5 q)) (hA.2.2.2.2.2.2 q (by omega)) ?_
    refine wp_callV0 (d' := d - 1) cv_RX8_128 69 rfl [(0, (A.2 5 (q - 1))), (0, (A.2 5 q))] [] rfl rfl (Or.inl ⟨_, _, rfl, by decide, rfl, by omega, by omega⟩) (by omega) (Nat.le_of_ble_eq_true rfl) dX8_passes_33 rfl (Nat.le_of_ble_eq_true rfl) (by omega) (loc1 := [(2, 69), (0, (A.2 5 (q - 1))), (0, (A.2 5 q)), (9, 0), (9, 0), (9, 0)]) rfl ?_
    refine sp_mdm hn hI (by omega) (A.2 5 (q - 1)) (A.2 5 q) vp vq vn (fun m1 M1 F1 => ?_) (fun m1 M1 F1 => ?_)
    · refine wp_if_eq (tgt := 41) dX8_passes_36 (by decide) (fun h => absurd h (by decide)) (fun _ => ?_)
      refine wp_iconst dX8_passes_39 (by decide) ?_
      refine wp_zret rfl (by omega) dX8_passes_40 ?_
      refine kf (fun h => ?_) M1 (hI.frs F1) (F1.mono VMs.l)
      have h4 := h.2.2.2
      rw [show ((q : Int) - 1).toNat = q - 1 by omega] at h4
      have h5 : mindsA E A (A.2 5 (q - 1)) (A.2 5 q) = false := h4
      rw [m1] at h5
      cases h5
    · refine wp_if_eq (tgt := 41) dX8_passes_36 (by decide) (fun _ => ?_) (fun h => absurd h (by decide))
      refine wp_aload_n dX8_passes_41 rfl rfl ?_
      refine wp_get 69 rfl fl_RX8_29 rfl ⟨by omega, by omega⟩ dX8_passes_42 rfl (v := 75) (sr_69_11 (M := M1) (hI.frs F1).1) ?_
      refine wp_iload_n dX8_passes_45 rfl rfl ?_
      refine wp_iald 75 rfl rfl ⟨by omega, by omega⟩ ⟨by omega, by omega⟩ dX8_passes_46 (v := (A.2 5 q)) ((hI.frs F1).2.1.2.2.2.2.2.2 q (by omega)) ?_
      refine wp_istore_n (loc' := [(2, 69), (0, (q : Int)), (0, (A.2 5 q))]) dX8_passes_47 rfl (Nat.le_of_ble_eq_true rfl) rfl ?_
      refine wp_aload_n dX8_passes_48 rfl rfl ?_
      refine wp_get 69 rfl fl_RX8_29 rfl ⟨by omega, by omega⟩ dX8_passes_49 rfl (v := 75) (sr_69_11 (M := M1) (hI.frs F1).1) ?_
      refine wp_iload_n dX8_passes_52 rfl rfl ?_
      refine wp_aload_n dX8_passes_53 rfl rfl ?_
      refine wp_get 69 rfl fl_RX8_29 rfl ⟨by omega, by omega⟩ dX8_passes_54 rfl (v := 75) (sr_69_11 (M := M1) (hI.frs F1).1) ?_
      refine wp_iload_n dX8_passes_57 rfl rfl ?_
      refine wp_iconst dX8_passes_58 (by decide) ?_
      refine wp_isub dX8_passes_59 (by omega) ?_
      refine wp_iald 75 rfl rfl ⟨by omega, by omega⟩ ⟨by omega, by omega⟩ dX8_passes_60 (v := (A.2 5 (q - 1))) (by rw [show (((q : Int) - 1)).toNat = (q - 1) by omega]; exact (hI.frs F1).2.1.2.2.2.2.2.2 (q - 1) (by omega)) ?_
      refine wp_iast 75 rfl rfl ⟨by omega, by omega⟩ ⟨by omega, by omega⟩ dX8_passes_61 (jn := q) rfl ?_
      refine wp_aload_n dX8_passes_62 rfl rfl ?_
      refine wp_get 69 rfl fl_RX8_29 rfl ⟨by omega, by omega⟩ dX8_passes_63 rfl (v := 75) (sr_69_11 (M := M1) (hI.frs F1).1) ?_
      refine wp_iload_n dX8_passes_66 rfl rfl ?_
      refine wp_iconst dX8_passes_67 (by decide) ?_
      refine wp_isub dX8_passes_68 (by omega) ?_
      refine wp_iload_n dX8_passes_69 rfl rfl ?_
      refine wp_iast 75 rfl rfl ⟨by omega, by omega⟩ ⟨by omega, by omega⟩ dX8_passes_70 (jn := (q - 1)) (by omega) ?_
      refine wp_iconst dX8_passes_71 (by decide) ?_
      refine wp_zret rfl (by omega) dX8_passes_72 ?_
      have g1 : Fr VMl M (mu (mu M1 75 q (A.2 5 (q - 1))) 75 (q - 1) (A.2 5 q)) := ((F1.mono VMs.l).put (by unfold VMl VMs; omega)).put (by unfold VMl VMs; omega)
      refine kt ⟨by omega, by omega, by omega, ?_⟩ _ (hI.new g1 ((hI.frs F1).2.1.swap h1 hq) (hW.swap h1 hq) hr) g1
      rw [show ((q : Int) - 1).toNat = q - 1 by omega]
      exact m1
  · refine wp_aload_n dX8_passes_5 rfl rfl ?_
    refine wp_aload_n dX8_passes_6 rfl rfl ?_
    refine wp_get 69 rfl fl_RX8_29 rfl ⟨by omega, by omega⟩ dX8_passes_7 rfl (v := 75) (sr_69_11 (M := M) hR) ?_
    refine wp_iconst dX8_passes_10 (by decide) ?_
    refine wp_iald 75 rfl rfl ⟨by omega, by omega⟩ ⟨by omega, by omega⟩ dX8_passes_11 (v := (A.2 5 0)) (hA.2.2.2.2.2.2 0 (by omega)) ?_
    refine wp_callV0 (d' := d - 1) cv_RX8_362 69 rfl [(0, (A.2 5 0))] [] rfl rfl (Or.inl ⟨_, _, rfl, by decide, rfl, by omega, by omega⟩) (by omega) (Nat.le_of_ble_eq_true rfl) dX8_passes_12 rfl (Nat.le_of_ble_eq_true rfl) (by omega) (loc1 := [(2, 69), (0, (A.2 5 0))]) rfl ?_
    refine sp_srvm hn hI (A.2 5 0) v0 (fun s1 => ?_) (fun s1 => ?_)
    · refine wp_if_ne (tgt := 39) dX8_passes_15 (by decide) (fun _ => ?_) (fun h => absurd h (by decide))
      refine wp_iconst dX8_passes_39 (by decide) ?_
      refine wp_zret rfl (by omega) dX8_passes_40 ?_
      exact kf (fun h => h.2.2.1 (by omega)) M hI Fr.rf
    · refine wp_if_ne (tgt := 39) dX8_passes_15 (by decide) (fun h => absurd h (by decide)) (fun _ => ?_)
      refine wp_aload_n dX8_passes_18 rfl rfl ?_
      refine wp_aload_n dX8_passes_19 rfl rfl ?_
      refine wp_get 69 rfl fl_RX8_29 rfl ⟨by omega, by omega⟩ dX8_passes_20 rfl (v := 75) (sr_69_11 (M := M) hR) ?_
      refine wp_iload_n dX8_passes_23 rfl rfl ?_
      refine wp_iconst dX8_passes_24 (by decide) ?_
      refine wp_isub dX8_passes_25 (by omega) ?_
      refine wp_iald 75 rfl rfl ⟨by omega, by omega⟩ ⟨by omega, by omega⟩ dX8_passes_26 (v := (A.2 5 (q - 1))) (by rw [show (((q : Int) - 1)).toNat = (q - 1) by omega]; exact hA.2.2.2.2.2.2 (q - 1) (by omega)) ?_
      refine wp_aload_n dX8_passes_27 rfl rfl ?_
      refine wp_get 69 rfl fl_RX8_29 rfl ⟨by omega, by omega⟩ dX8_passes_28 rfl (v := 75) (sr_69_11 (M := M) hR) ?_
      refine wp_iload_n dX8_passes_31 rfl rfl ?_
      refine wp_iald 75 rfl rfl ⟨by omega, by omega⟩ ⟨by omega, by omega⟩ dX8_passes_32 (v := (A.2 5 q)) (hA.2.2.2.2.2.2 q (by omega)) ?_
      refine wp_callV0 (d' := d - 1) cv_RX8_128 69 rfl [(0, (A.2 5 (q - 1))), (0, (A.2 5 q))] [] rfl rfl (Or.inl ⟨_, _, rfl, by decide, rfl, by omega, by omega⟩) (by omega) (Nat.le_of_ble_eq_true rfl) dX8_passes_33 rfl (Nat.le_of_ble_eq_true rfl) (by omega) (loc1 := [(2, 69), (0, (A.2 5 (q - 1))), (0, (A.2 5 q)), (9, 0), (9, 0), (9, 0)]) rfl ?_
      refine sp_mdm hn hI (by omega) (A.2 5 (q - 1)) (A.2 5 q) vp vq vn (fun m1 M1 F1 => ?_) (fun m1 M1 F1 => ?_)
      · refine wp_if_eq (tgt := 41) dX8_passes_36 (by decide) (fun h => absurd h (by decide)) (fun _ => ?_)
        refine wp_iconst dX8_passes_39 (by decide) ?_
        refine wp_zret rfl (by omega) dX8_passes_40 ?_
        refine kf (fun h => ?_) M1 (hI.frs F1) (F1.mono VMs.l)
        have h4 := h.2.2.2
        rw [show ((q : Int) - 1).toNat = q - 1 by omega] at h4
        have h5 : mindsA E A (A.2 5 (q - 1)) (A.2 5 q) = false := h4
        rw [m1] at h5
        cases h5
      · refine wp_if_eq (tgt := 41) dX8_passes_36 (by decide) (fun _ => ?_) (fun h => absurd h (by decide))
        refine wp_aload_n dX8_passes_41 rfl rfl ?_
        refine wp_get 69 rfl fl_RX8_29 rfl ⟨by omega, by omega⟩ dX8_passes_42 rfl (v := 75) (sr_69_11 (M := M1) (hI.frs F1).1) ?_
        refine wp_iload_n dX8_passes_45 rfl rfl ?_
        refine wp_iald 75 rfl rfl ⟨by omega, by omega⟩ ⟨by omega, by omega⟩ dX8_passes_46 (v := (A.2 5 q)) ((hI.frs F1).2.1.2.2.2.2.2.2 q (by omega)) ?_
        refine wp_istore_n (loc' := [(2, 69), (0, (q : Int)), (0, (A.2 5 q))]) dX8_passes_47 rfl (Nat.le_of_ble_eq_true rfl) rfl ?_
        refine wp_aload_n dX8_passes_48 rfl rfl ?_
        refine wp_get 69 rfl fl_RX8_29 rfl ⟨by omega, by omega⟩ dX8_passes_49 rfl (v := 75) (sr_69_11 (M := M1) (hI.frs F1).1) ?_
        refine wp_iload_n dX8_passes_52 rfl rfl ?_
        refine wp_aload_n dX8_passes_53 rfl rfl ?_
        refine wp_get 69 rfl fl_RX8_29 rfl ⟨by omega, by omega⟩ dX8_passes_54 rfl (v := 75) (sr_69_11 (M := M1) (hI.frs F1).1) ?_
        refine wp_iload_n dX8_passes_57 rfl rfl ?_
        refine wp_iconst dX8_passes_58 (by decide) ?_
        refine wp_isub dX8_passes_59 (by omega) ?_
        refine wp_iald 75 rfl rfl ⟨by omega, by omega⟩ ⟨by omega, by omega⟩ dX8_passes_60 (v := (A.2 5 (q - 1))) (by rw [show (((q : Int) - 1)).toNat = (q - 1) by omega]; exact (hI.frs F1).2.1.2.2.2.2.2.2 (q - 1) (by omega)) ?_
        refine wp_iast 75 rfl rfl ⟨by omega, by omega⟩ ⟨by omega, by omega⟩ dX8_passes_61 (jn := q) rfl ?_
        refine wp_aload_n dX8_passes_62 rfl rfl ?_
        refine wp_get 69 rfl fl_RX8_29 rfl ⟨by omega, by omega⟩ dX8_passes_63 rfl (v := 75) (sr_69_11 (M := M1) (hI.frs F1).1) ?_
        refine wp_iload_n dX8_passes_66 rfl rfl ?_
        refine wp_iconst dX8_passes_67 (by decide) ?_
        refine wp_isub dX8_passes_68 (by omega) ?_
        refine wp_iload_n dX8_passes_69 rfl rfl ?_
        refine wp_iast 75 rfl rfl ⟨by omega, by omega⟩ ⟨by omega, by omega⟩ dX8_passes_70 (jn := (q - 1)) (by omega) ?_
        refine wp_iconst dX8_passes_71 (by decide) ?_
        refine wp_zret rfl (by omega) dX8_passes_72 ?_
        have g1 : Fr VMl M (mu (mu M1 75 q (A.2 5 (q - 1))) 75 (q - 1) (A.2 5 q)) := ((F1.mono VMs.l).put (by unfold VMl VMs; omega)).put (by unfold VMl VMs; omega)
        refine kt ⟨by omega, by omega, by omega, ?_⟩ _ (hI.new g1 ((hI.frs F1).2.1.swap h1 hq) (hW.swap h1 hq) hr) g1
        rw [show ((q : Int) - 1).toNat = q - 1 by omega]
        exact m1
set_option maxRecDepth 20000 in
set_option maxHeartbeats 4000000 in
theorem cm_pass {l : Launch} {g : Gw} {d n : Nat} {M : Mm} {Q : Option Wd → Mm → Prop} (hn : 90 ≤ n) {A : Ls} {E : Ev} (hI : MJ M A E) (hd : 70 ≤ d) (x : Int) (kB : ¬ (0 ≤ x ∧ x < A.1 2) → Q (some (0, -2)) M) (kS : (0 ≤ x ∧ x < A.1 2) → ¬ cpA E A (plA A x) → ∀ M', MJ M' A E → Fr VMl M M' → Q (some (0, -3)) M') (k : (0 ≤ x ∧ x < A.1 2) → cpA E A (plA A x) → ∀ M', MJ M' (swapA A (plA A x).toNat) E → Fr VMl M M' → Q (some (0, plA A x - 1)) M') : Wp l g d 0 0 n m_X8_pass 0 [] [(2, 69), (0, x), (9, 0)] M Q := by
  obtain ⟨hR, hA, hW, hr, hX⟩ := id hI
  have w2 := hW.1
  have w5 := hW.2.1
  have w3 := hW.2.2.1
  have w32 := hW.2.2.2.1
  refine wp_aload_n dX8_pass_0 rfl rfl ?_
  refine wp_iload_n dX8_pass_1 rfl rfl ?_
  refine wp_callV0 (d' := d - 1) cv_RX8_97 69 rfl [(0, x)] [] rfl rfl (Or.inl ⟨_, _, rfl, by decide, rfl, by omega, by omega⟩) (by omega) (Nat.le_of_ble_eq_true rfl) dX8_pass_2 rfl (Nat.le_of_ble_eq_true rfl) (by omega) (loc1 := [(2, 69), (0, x)]) rfl ?_
  refine sp_isOne hn hI (by omega) x (fun o2 => ?_) (fun o2 => ?_)
  · refine wp_if_ne (tgt := 11) dX8_pass_5 (by decide) (fun _ => ?_) (fun h => absurd h (by decide))
    refine wp_aload_n dX8_pass_11 rfl rfl ?_
    refine wp_iload_n dX8_pass_12 rfl rfl ?_
    refine wp_callV0 (d' := d - 1) cv_RX8_132 69 rfl [(0, x)] [] rfl rfl (Or.inl ⟨_, _, rfl, by decide, rfl, by omega, by omega⟩) (by omega) (Nat.le_of_ble_eq_true rfl) dX8_pass_13 rfl (Nat.le_of_ble_eq_true rfl) (by omega) (loc1 := [(2, 69), (0, x), (9, 0)]) rfl ?_
    refine sp_plm hn hI x ?_
    have hp := fst_r (f := A.2 5) (x := x) (A.1 3).toNat 0
    have hp2 : plA A x = -1 ∨ ∃ q : Nat, plA A x = (q : Int) ∧ (q : Int) < A.1 3 := by
      rcases hp with h | ⟨q, _, b, c, _⟩
      · exact Or.inl h
      · exact Or.inr ⟨q, c, by omega⟩
    refine wp_istore_n (loc' := [(2, 69), (0, x), (0, (plA A x))]) dX8_pass_16 rfl (Nat.le_of_ble_eq_true rfl) rfl ?_
    refine wp_iload_n dX8_pass_17 rfl rfl ?_
    refine wp_iconst dX8_pass_18 (by decide) ?_
    refine wp_icmp_lt (tgt := 30) dX8_pass_19 (by decide) (fun h19 => ?_) (fun h19 => ?_)
    · refine wp_bipush dX8_pass_30 (by decide) (by decide) ?_
      refine wp_goto (tgt := 38) dX8_pass_32 (by decide) ?_
      refine wp_iret rfl dX8_pass_38 ?_
      exact kS (by omega) (fun h => by have := h.1; omega) M hI Fr.rf
    · refine wp_aload_n dX8_pass_22 rfl rfl ?_
      refine wp_iload_n dX8_pass_23 rfl rfl ?_
      refine wp_callV0 (d' := d - 1) cv_RX8_365 69 rfl [(0, (plA A x))] [] rfl rfl (Or.inl ⟨_, _, rfl, by decide, rfl, by omega, by omega⟩) (by omega) (Nat.le_of_ble_eq_true rfl) dX8_pass_24 rfl (Nat.le_of_ble_eq_true rfl) (by omega) (loc1 := [(2, 69), (0, (plA A x)), (9, 0)]) rfl ?_
      obtain ⟨q, eq, hq⟩ : ∃ q : Nat, plA A x = (q : Int) ∧ (q : Int) < A.1 3 := hp2.resolve_left (by omega)
      rw [eq] at kS k h19 ⊢
      refine sp_passm hn hI (by omega) (by omega) hq (fun c1 M1 I1 F1 => ?_) (fun c1 M1 I1 F1 => ?_)
      · refine wp_if_ne (tgt := 35) dX8_pass_27 (by decide) (fun _ => ?_) (fun h => absurd h (by decide))
        refine wp_iload_n dX8_pass_35 rfl rfl ?_
        refine wp_iconst dX8_pass_36 (by decide) ?_
        refine wp_isub dX8_pass_37 (by omega) ?_
        refine wp_iret rfl dX8_pass_38 ?_
        exact k (by omega) c1 M1 I1 F1
      · refine wp_if_ne (tgt := 35) dX8_pass_27 (by decide) (fun h => absurd h (by decide)) (fun _ => ?_)
        refine wp_bipush dX8_pass_30 (by decide) (by decide) ?_
        refine wp_goto (tgt := 38) dX8_pass_32 (by decide) ?_
        refine wp_iret rfl dX8_pass_38 ?_
        exact kS (by omega) c1 M1 I1 F1
  · refine wp_if_ne (tgt := 11) dX8_pass_5 (by decide) (fun h => absurd h (by decide)) (fun _ => ?_)
    refine wp_bipush dX8_pass_8 (by decide) (by decide) ?_
    refine wp_iret rfl dX8_pass_10 ?_
    exact kB (by omega)
theorem hstA_end (E : Ev) : ∀ (m q : Nat) (A : Ls), A.1 3 ≤ (q : Int) → hstA E m q A = (A, 0)
  | 0, _, _, _ => rfl
  | m + 1, q, A, h => by
    unfold hstA
    rw [if_neg (fun c => by have := c.2.1; omega)]
    exact hstA_end E m (q + 1) A (by omega)
set_option maxRecDepth 20000 in
set_option maxHeartbeats 4000000 in
theorem lp_hsm  {l : Launch} {g : Gw} {d n : Nat} (hn : 90 ≤ n) {E : Ev} (hd : 68 ≤ d) : ∀ (m q : Nat) (A : Ls) (a : Int) (M : Mm) (Q : Option Wd → Mm → Prop), q + m = 5 → 1 ≤ q → 0 ≤ a ∧ a < (q : Int) → MJ M A E → (∀ M', MJ M' (hstA E m q A).1 E → Fr VMl M M' → Q (some (0, a + (hstA E m q A).2)) M') → Wp l g d 0 0 n m_X8_haste 4 [] [(2, 69), (0, a), (0, (q : Int))] M Q := by
  intro m
  induction m with
  | zero =>
    intro q A a M Q hm h1 ha hI k
    obtain ⟨hR, hA, hW, hr, hX⟩ := id hI
    have w2 := hW.1
    have w5 := hW.2.1
    have w3 := hW.2.2.1
    have w32 := hW.2.2.2.1
    refine wp_iload_n dX8_haste_4 rfl rfl ?_
    refine wp_aload_n dX8_haste_5 rfl rfl ?_
    refine wp_get 69 rfl fl_RX8_123 rfl ⟨by omega, by omega⟩ dX8_haste_6 rfl (v := (A.1 3)) (hA.2.2.2.1) ?_
    refine wp_icmp_ge (tgt := 34) dX8_haste_9 (by decide) (fun _ => ?_) (fun h => absurd h (by omega))
    refine wp_iload_n dX8_haste_34 rfl rfl ?_
    refine wp_iret rfl dX8_haste_35 ?_
    have q0 := k M hI Fr.rf
    rw [show a + (hstA E 0 q A).2 = a from Int.add_zero a] at q0
    exact q0
  | succ m ih =>
    intro q A a M Q hm h1 ha hI k
    obtain ⟨hR, hA, hW, hr, hX⟩ := id hI
    have w2 := hW.1
    have w5 := hW.2.1
    have w3 := hW.2.2.1
    have w32 := hW.2.2.2.1
    refine wp_iload_n dX8_haste_4 rfl rfl ?_
    refine wp_aload_n dX8_haste_5 rfl rfl ?_
    refine wp_get 69 rfl fl_RX8_123 rfl ⟨by omega, by omega⟩ dX8_haste_6 rfl (v := (A.1 3)) (hA.2.2.2.1) ?_
    refine wp_icmp_ge (tgt := 34) dX8_haste_9 (by decide) (fun h9 => ?_) (fun h9 => ?_)
    · refine wp_iload_n dX8_haste_34 rfl rfl ?_
      refine wp_iret rfl dX8_haste_35 ?_
      rw [hstA_end E (m + 1) q A (by omega)] at k
      have q0 := k M hI Fr.rf
      rw [show a + ((A, (0 : Int)) : Ls × Int).2 = a from Int.add_zero a] at q0
      exact q0
    · refine wp_iload_n dX8_haste_12 rfl rfl ?_
      refine wp_aload_n dX8_haste_13 rfl rfl ?_
      refine wp_iload_n dX8_haste_14 rfl rfl ?_
      refine wp_callV0 (d' := d - 1) cv_RX8_365 69 rfl [(0, (q : Int))] [(0, a)] rfl rfl (Or.inl ⟨_, _, rfl, by decide, rfl, by omega, by omega⟩) (by omega) (Nat.le_of_ble_eq_true rfl) dX8_haste_15 rfl (Nat.le_of_ble_eq_true rfl) (by omega) (loc1 := [(2, 69), (0, (q : Int)), (9, 0)]) rfl ?_
      refine sp_passm hn hI (by omega) h1 (by omega) (fun c1 M1 I1 F1 => ?_) (fun c1 M1 I1 F1 => ?_)
      · refine wp_if_eq (tgt := 25) dX8_haste_18 (by decide) (fun h => absurd h (by decide)) (fun _ => ?_)
        refine wp_iconst dX8_haste_21 (by decide) ?_
        refine wp_goto (tgt := 26) dX8_haste_22 (by decide) ?_
        refine wp_iadd dX8_haste_26 (by omega) ?_
        refine wp_istore_n (loc' := [(2, 69), (0, (a + 1)), (0, (q : Int))]) dX8_haste_27 rfl (Nat.le_of_ble_eq_true rfl) rfl ?_
        refine wp_iinc (loc' := [(2, 69), (0, (a + 1)), (0, ((q : Int) + 1))]) dX8_haste_28 rfl (by omega) rfl ?_
        refine wp_goto (tgt := 4) dX8_haste_31 (by decide) ?_
        have e : hstA E (m + 1) q A = ((hstA E m (q + 1) (swapA A q)).1, (hstA E m (q + 1) (swapA A q)).2 + 1) := if_pos c1
        rw [e] at k
        exact ih (q + 1) (swapA A q) (a + 1) M1 Q (by omega) (by omega) (by omega) I1 (fun M2 I2 F2 => by rw [show a + 1 + (hstA E m (q + 1) (swapA A q)).2 = a + ((hstA E m (q + 1) (swapA A q)).2 + 1) by omega]; exact k M2 I2 (F1.tr F2))
      · refine wp_if_eq (tgt := 25) dX8_haste_18 (by decide) (fun _ => ?_) (fun h => absurd h (by decide))
        refine wp_iconst dX8_haste_25 (by decide) ?_
        refine wp_iadd dX8_haste_26 (by omega) ?_
        refine wp_istore_n (loc' := [(2, 69), (0, (a + 0)), (0, (q : Int))]) dX8_haste_27 rfl (Nat.le_of_ble_eq_true rfl) rfl ?_
        refine wp_iinc (loc' := [(2, 69), (0, (a + 0)), (0, ((q : Int) + 1))]) dX8_haste_28 rfl (by omega) rfl ?_
        refine wp_goto (tgt := 4) dX8_haste_31 (by decide) ?_
        have e : hstA E (m + 1) q A = hstA E m (q + 1) A := if_neg c1
        rw [e] at k
        rw [show a + 0 = a from Int.add_zero a]
        exact ih (q + 1) A a M1 Q (by omega) (by omega) (by omega) I1 (fun M2 I2 F2 => k M2 I2 (F1.tr F2))
set_option maxRecDepth 20000 in
set_option maxHeartbeats 4000000 in
theorem cm_haste {l : Launch} {g : Gw} {d n : Nat} {M : Mm} {Q : Option Wd → Mm → Prop} (hn : 90 ≤ n) {A : Ls} {E : Ev} (hI : MJ M A E) (hd : 70 ≤ d) (k : ∀ M', MJ M' (hstA E 4 1 A).1 E → Fr VMl M M' → Q (some (0, (hstA E 4 1 A).2)) M') : Wp l g d 0 0 n m_X8_haste 0 [] [(2, 69), (9, 0), (9, 0)] M Q := by
  obtain ⟨hR, hA, hW, hr, hX⟩ := id hI
  have w2 := hW.1
  have w5 := hW.2.1
  have w3 := hW.2.2.1
  have w32 := hW.2.2.2.1
  refine wp_iconst dX8_haste_0 (by decide) ?_
  refine wp_istore_n (loc' := [(2, 69), (0, 0), (9, 0)]) dX8_haste_1 rfl (Nat.le_of_ble_eq_true rfl) rfl ?_
  refine wp_iconst dX8_haste_2 (by decide) ?_
  refine wp_istore_n (loc' := [(2, 69), (0, 0), (0, 1)]) dX8_haste_3 rfl (Nat.le_of_ble_eq_true rfl) rfl ?_
  refine lp_hsm hn (by omega) 4 1 A 0 M Q (by omega) (by omega) (by omega) hI (fun M1 I1 F1 => ?_)
  rw [Int.zero_add]
  exact k M1 I1 F1
