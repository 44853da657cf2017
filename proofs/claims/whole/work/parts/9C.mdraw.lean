/-! ===== the model: draws, drawn, chance ===== -/
theorem bnd_as (x y z : Int) : bnd (bnd x y) z = bnd x (bnd y z) := by
  unfold bnd
  rw [Int32.ofInt_toInt, Int32.ofInt_toInt, Int32.and_assoc]
/-- the likings of B up to q, of A from there -/
def mxA (A B : Ls) (q : Nat) : Ls := (A.1, fun r i => if r = 2 ∧ i < q then B.2 2 i else A.2 r i)
theorem Rm.mix {M : Mm} {A B : Ls} {q : Nat} (h : Rm M (mxA A B q)) : Rm (mu M 74 (4 * q + 1) (B.2 2 q)) (mxA A B (q + 1)) := by
  obtain ⟨a, b, c, d, x, y, z⟩ := h
  refine ⟨a, b, c, d, fun k hk => (x k hk).trans ?_, fun s k hs hk => ?_, fun j hj => (z j hj).trans ?_⟩
  · show (if (0 : Nat) = 2 ∧ k < q then B.2 2 k else A.2 0 k) = (if (0 : Nat) = 2 ∧ k < q + 1 then B.2 2 k else A.2 0 k)
    rw [if_neg (by omega), if_neg (by omega)]
  · show mu M 74 (4 * q + 1) (B.2 2 q) 74 (4 * k + s) = (if s + 1 = 2 ∧ k < q + 1 then B.2 2 k else A.2 (s + 1) k)
    by_cases e : s = 1 ∧ k = q
    · obtain ⟨rfl, rfl⟩ := e
      rw [mu_self, if_pos (by omega)]
    · rw [mu_nj _ _ _ (show 4 * k + s ≠ 4 * q + 1 by omega), y s k hs hk]
      show (if s + 1 = 2 ∧ k < q then B.2 2 k else A.2 (s + 1) k) = _
      by_cases c2 : s + 1 = 2 ∧ k < q
      · rw [if_pos c2, if_pos (by omega)]
      · rw [if_neg c2, if_neg (by omega)]
  · show (if (5 : Nat) = 2 ∧ j < q then B.2 2 j else A.2 5 j) = (if (5 : Nat) = 2 ∧ j < q + 1 then B.2 2 j else A.2 5 j)
    rw [if_neg (by omega), if_neg (by omega)]
theorem Rm.mix0 {M : Mm} {A B : Ls} (h : Rm M A) : Rm M (mxA A B 0) := by
  have e : mxA A B 0 = A := by
    show (A.1, fun r i => if r = 2 ∧ i < 0 then B.2 2 i else A.2 r i) = A
    have : (fun r i => if r = 2 ∧ i < 0 then B.2 2 i else A.2 r i) = A.2 := by
      funext r i
      rw [if_neg (by omega)]
    rw [this]
  rw [e]
  exact h
theorem Rm.mixN {M : Mm} {A B : Ls} {q : Nat} (h : Rm M (mxA A B q)) (hq : A.1 2 ≤ (q : Int)) (e1 : B.1 = A.1) (e2 : ∀ r i, r ≠ 2 → B.2 r i = A.2 r i) : Rm M B := by
  obtain ⟨a, b, c, d, x, y, z⟩ := h
  refine ⟨by rw [e1]; exact a, by rw [e1]; exact b, by rw [e1]; exact c, by rw [e1]; exact d, fun k hk => ?_, fun s k hs hk => ?_, fun j hj => ?_⟩
  · rw [e1] at hk
    rw [e2 0 k (by omega)]
    refine (x k hk).trans ?_
    show (if (0 : Nat) = 2 ∧ k < q then B.2 2 k else A.2 0 k) = _
    rw [if_neg (by omega)]
  · rw [e1] at hk
    refine (y s k hs hk).trans ?_
    show (if s + 1 = 2 ∧ k < q then B.2 2 k else A.2 (s + 1) k) = _
    by_cases c2 : s + 1 = 2
    · rw [if_pos (by omega), c2]
    · rw [if_neg (by omega), e2 _ _ c2]
  · rw [e1] at hj
    rw [e2 5 j (by omega)]
    refine (z j hj).trans ?_
    show (if (5 : Nat) = 2 ∧ j < q then B.2 2 j else A.2 5 j) = _
    rw [if_neg (by omega)]
theorem drw_o {A : Ls} {s : Int} : ∀ r i, r ≠ 2 → (drwA A s).2 r i = A.2 r i := fun r i h => if_neg h
/-- cells that drawing changes -/
def VMz (i j : Nat) : Prop := i = 74 ∨ i = 84
theorem VMz.sr {M M' : Mm} (h : Fr VMz M M') (hR : SR M) : SR M' := hR.frL h (by unfold VMz; decide +kernel)
/-- the likings laid by -/
def LWm (M : Mm) (A : Ls) (n : Nat) : Prop := ∀ i : Nat, i < n → (i : Int) < A.1 2 → M 84 i = A.2 2 i
set_option maxRecDepth 20000 in
set_option maxHeartbeats 4000000 in
theorem lp_drm  {l : Launch} {g : Gw} {d n : Nat} (hn : 90 ≤ n) {A : Ls} {s : Int} {N : Nat} (hN : A.1 2 = (N : Int)) (hN5 : N ≤ 5) : ∀ (m q : Nat) (M : Mm) (Q : Option Wd → Mm → Prop), q + m = N → SR M → Rm M (mxA A (drwA A s) q) → LWm M A q → (∀ M', Rm M' (drwA A s) → LWm M' A N → Fr VMz M M' → Q none M') → Wp l g d 0 0 n m_X8_draws 4 [] [(2, 69), (0, s), (0, (drZ s q)), (0, (q : Int))] M Q := by
  intro m
  induction m with
  | zero =>
    intro q M Q hm hR hA hl k
    refine wp_iload_n dX8_draws_4 rfl rfl ?_
    refine wp_aload_n dX8_draws_5 rfl rfl ?_
    refine wp_get 69 rfl fl_RX8_88 rfl ⟨by omega, by omega⟩ dX8_draws_6 rfl (v := (N : Int)) ((hA.2.2.1.trans hN)) ?_
    refine wp_icmp_ge (tgt := 76) dX8_draws_9 (by decide) (fun _ => ?_) (fun h => absurd h (by omega))
    refine wp_vret rfl dX8_draws_76 ?_
    exact k M (hA.mixN (by omega) rfl drw_o) (fun i h1 h2 => hl i (by omega) h2) Fr.rf
  | succ m ih =>
    intro q M Q hm hR hA hl k
    refine wp_iload_n dX8_draws_4 rfl rfl ?_
    refine wp_aload_n dX8_draws_5 rfl rfl ?_
    refine wp_get 69 rfl fl_RX8_88 rfl ⟨by omega, by omega⟩ dX8_draws_6 rfl (v := (N : Int)) ((hA.2.2.1.trans hN)) ?_
    refine wp_icmp_ge (tgt := 76) dX8_draws_9 (by decide) (fun h => absurd h (by omega)) (fun _ => ?_)
    refine wp_aload_n dX8_draws_12 rfl rfl ?_
    refine wp_get 69 rfl fl_RX8_57 rfl ⟨by omega, by omega⟩ dX8_draws_13 rfl (v := 84) (sr_69_42 (M := M) hR) ?_
    refine wp_iload_n dX8_draws_16 rfl rfl ?_
    refine wp_aload_n dX8_draws_17 rfl rfl ?_
    refine wp_get 69 rfl fl_RX8_26 rfl ⟨by omega, by omega⟩ dX8_draws_18 rfl (v := 74) (sr_69_9 (M := M) hR) ?_
    refine wp_iconst dX8_draws_21 (by decide) ?_
    refine wp_iload_n dX8_draws_22 rfl rfl ?_
    refine wp_imul dX8_draws_23 (by omega) ?_
    refine wp_iconst dX8_draws_24 (by decide) ?_
    refine wp_iadd dX8_draws_25 (by omega) ?_
    refine wp_iald 74 rfl rfl ⟨by omega, by omega⟩ ⟨by omega, by omega⟩ dX8_draws_26 (v := (A.2 2 q)) (by rw [show (((4 * (q : Int)) + 1)).toNat = (4 * q + 1) by omega]; exact (hA.2.2.2.2.2.1 1 q (by omega) (show (q : Int) < A.1 2 by omega)).trans (if_neg (by omega))) ?_
    refine wp_iast 84 rfl rfl ⟨by omega, by omega⟩ ⟨by omega, by omega⟩ dX8_draws_27 (jn := q) rfl ?_
    refine wp_iload_n dX8_draws_28 rfl rfl ?_
    refine wp_ldcw (x := 1103515245) dX8_draws_29 kc_RX8_450 (by decide) (wr_i (by omega)) ?_
    refine wp_imulw dX8_draws_32 ?_
    refine wp_sipush dX8_draws_33 (by decide) (by decide) ?_
    refine wp_iaddw dX8_draws_36 ?_
    refine wp_istore_n (loc' := [(2, 69), (0, s), (0, (wrap ((wrap ((drZ s q) * 1103515245)) + 12345))), (0, (q : Int))]) dX8_draws_37 rfl (Nat.le_of_ble_eq_true rfl) rfl ?_
    refine wp_aload_n dX8_draws_38 rfl rfl ?_
    refine wp_get 69 rfl fl_RX8_26 rfl ⟨by omega, by omega⟩ dX8_draws_39 rfl (v := 74) (sr_69_9 (M := M) hR) ?_
    refine wp_iconst dX8_draws_42 (by decide) ?_
    refine wp_iload_n dX8_draws_43 rfl rfl ?_
    refine wp_imul dX8_draws_44 (by omega) ?_
    refine wp_iconst dX8_draws_45 (by decide) ?_
    refine wp_iadd dX8_draws_46 (by omega) ?_
    refine wp_iload_n dX8_draws_47 rfl rfl ?_
    refine wp_bipush dX8_draws_48 (by decide) (by decide) ?_
    refine wp_iushr dX8_draws_50 ?_
    refine wp_bipush dX8_draws_51 (by decide) (by decide) ?_
    refine wp_irem dX8_draws_53 (by omega) ?_
    refine wp_iconst dX8_draws_54 (by decide) ?_
    refine wp_aload_n dX8_draws_55 rfl rfl ?_
    refine wp_get 69 rfl fl_RX8_88 rfl ⟨by omega, by omega⟩ dX8_draws_56 rfl (v := (N : Int)) ((hA.2.2.1.trans hN)) ?_
    refine wp_ishl dX8_draws_59 ?_
    refine wp_iconst dX8_draws_60 (by decide) ?_
    refine wp_isubw dX8_draws_61 ?_
    refine wp_iand dX8_draws_62 ?_
    refine wp_iconst dX8_draws_63 (by decide) ?_
    refine wp_iload_n dX8_draws_64 rfl rfl ?_
    refine wp_ishl dX8_draws_65 ?_
    refine wp_iconst dX8_draws_66 (by decide) ?_
    refine wp_ixor dX8_draws_67 ?_
    refine wp_iand dX8_draws_68 ?_
    refine wp_iast 74 rfl rfl ⟨by omega, by omega⟩ ⟨by omega, by omega⟩ dX8_draws_69 (jn := (4 * q + 1)) (by omega) ?_
    refine wp_iinc (loc' := [(2, 69), (0, s), (0, (wrap ((wrap ((drZ s q) * 1103515245)) + 12345))), (0, ((q : Int) + 1))]) dX8_draws_70 rfl (by omega) rfl ?_
    refine wp_goto (tgt := 4) dX8_draws_73 (by decide) ?_
    have f1 : Fr VMz M (mu (mu M 84 q (A.2 2 q)) 74 (4 * q + 1) (bnd (bnd (Int.tmod (ush (wrap ((wrap ((drZ s q) * 1103515245)) + 12345)) 9) 32) (wrap ((shl 1 (N : Int)) - 1))) (bxr (shl 1 (q : Int)) (-1)))) := (Fr.rf.put (by unfold VMz; omega)).put (by unfold VMz; omega)
    have ev : (bnd (bnd (Int.tmod (ush (wrap ((wrap ((drZ s q) * 1103515245)) + 12345)) 9) 32) (wrap ((shl 1 (N : Int)) - 1))) (bxr (shl 1 (q : Int)) (-1))) = (drwA A s).2 2 q := by
      show _ = lkV (A.1 2) s q
      unfold lkV
      rw [bnd_as, hN]
      rfl
    have a1 : Rm (mu (mu M 84 q (A.2 2 q)) 74 (4 * q + 1) (bnd (bnd (Int.tmod (ush (wrap ((wrap ((drZ s q) * 1103515245)) + 12345)) 9) 32) (wrap ((shl 1 (N : Int)) - 1))) (bxr (shl 1 (q : Int)) (-1)))) (mxA A (drwA A s) (q + 1)) := by
      rw [ev]
      exact Rm.mix (Rm.fr hA rfl rfl rfl rfl (fun j => rfl) (fun j => rfl) (fun j => rfl))
    refine ih (q + 1) _ Q (by omega) (VMz.sr f1 hR) a1 (fun i h1 h2 => ?_) (fun M2 A2 L2 F2 => k M2 A2 L2 (f1.tr F2))
    by_cases c : i = q
    · subst c
      exact (mu_ne _ _ _ (by omega) _).trans (mu_self _ _ _ _)
    · exact (mu_ne _ _ _ (by omega) _).trans ((mu_nj _ _ _ c).trans (hl i (by omega) h2))
theorem VMz.f3 {M M' : Mm} (f : Fr VMz M M') : M' 69 3 = M 69 3 := f 69 3 (by unfold VMz; omega)
theorem MJ.drw {M M' : Mm} {A B : Ls} {E : Ev} (h : MJ M A E) (f : Fr VMz M M') (hA : Rm M' B) (hW : Wf B) (e : B.1 1 = A.1 1) : MJ M' B E :=
  ⟨VMz.sr f h.1, hA, hW, by rw [e, (VMz.f3 f)]; exact h.2.2.2.1, h.2.2.2.2.fr (f 69 3 (by unfold VMz; omega)) (fun j => f 70 j (by unfold VMz; omega)) (fun j => f 71 j (by unfold VMz; omega))⟩
set_option maxRecDepth 20000 in
set_option maxHeartbeats 4000000 in
theorem sp_drm {l : Launch} {g : Gw} {d n : Nat} {M : Mm} {Q : Option Wd → Mm → Prop} (hn : 90 ≤ n) {A : Ls} {E : Ev} (hI : MJ M A E) (s : Int) {N : Nat} (hN : A.1 2 = (N : Int)) (k : ∀ M', MJ M' (drwA A s) E → LWm M' A N → Fr VMz M M' → Q none M') : Wp l g d 0 0 n m_X8_draws 0 [] [(2, 69), (0, s), (9, 0), (9, 0)] M Q := by
  obtain ⟨hR, hA, hW, hr, hX⟩ := id hI
  have w2 := hW.1
  have w5 := hW.2.1
  have w3 := hW.2.2.1
  have w32 := hW.2.2.2.1
  refine wp_iload_n dX8_draws_0 rfl rfl ?_
  refine wp_istore_n (loc' := [(2, 69), (0, s), (0, s), (9, 0)]) dX8_draws_1 rfl (Nat.le_of_ble_eq_true rfl) rfl ?_
  refine wp_iconst dX8_draws_2 (by decide) ?_
  refine wp_istore_n (loc' := [(2, 69), (0, s), (0, s), (0, 0)]) dX8_draws_3 rfl (Nat.le_of_ble_eq_true rfl) rfl ?_
  exact lp_drm hn hN (by omega) N 0 M Q (by omega) hR hA.mix0 (fun i h1 h2 => by omega) (fun M1 a1 l1 f1 => k M1 (hI.drw f1 a1 (hW.draw s) rfl) l1 f1)
set_option maxRecDepth 20000 in
set_option maxHeartbeats 4000000 in
theorem lp_lgm  {l : Launch} {g : Gw} {d n : Nat} (hn : 90 ≤ n) {A : Ls} {s : Int} {N : Nat} (hN : A.1 2 = (N : Int)) (hN5 : N ≤ 5) : ∀ (m q : Nat) (M : Mm) (Q : Option Wd → Mm → Prop), q + m = N → SR M → Rm M (mxA (drwA A s) A q) → LWm M A N → (∀ M', Rm M' A → Fr VMz M M' → Q none M') → Wp l g d 0 0 n m_X8_likesAgain 2 [] [(2, 69), (0, (q : Int))] M Q := by
  intro m
  induction m with
  | zero =>
    intro q M Q hm hR hA hl k
    refine wp_iload_n dX8_likesAgain_2 rfl rfl ?_
    refine wp_aload_n dX8_likesAgain_3 rfl rfl ?_
    refine wp_get 69 rfl fl_RX8_88 rfl ⟨by omega, by omega⟩ dX8_likesAgain_4 rfl (v := (N : Int)) ((hA.2.2.1.trans hN)) ?_
    refine wp_icmp_ge (tgt := 32) dX8_likesAgain_7 (by decide) (fun _ => ?_) (fun h => absurd h (by omega))
    refine wp_vret rfl dX8_likesAgain_32 ?_
    exact k M (hA.mixN (show A.1 2 ≤ (q : Int) by omega) rfl (fun r i h => (drw_o r i h).symm)) Fr.rf
  | succ m ih =>
    intro q M Q hm hR hA hl k
    refine wp_iload_n dX8_likesAgain_2 rfl rfl ?_
    refine wp_aload_n dX8_likesAgain_3 rfl rfl ?_
    refine wp_get 69 rfl fl_RX8_88 rfl ⟨by omega, by omega⟩ dX8_likesAgain_4 rfl (v := (N : Int)) ((hA.2.2.1.trans hN)) ?_
    refine wp_icmp_ge (tgt := 32) dX8_likesAgain_7 (by decide) (fun h => absurd h (by omega)) (fun _ => ?_)
    refine wp_aload_n dX8_likesAgain_10 rfl rfl ?_
    refine wp_get 69 rfl fl_RX8_26 rfl ⟨by omega, by omega⟩ dX8_likesAgain_11 rfl (v := 74) (sr_69_9 (M := M) hR) ?_
    refine wp_iconst dX8_likesAgain_14 (by decide) ?_
    refine wp_iload_n dX8_likesAgain_15 rfl rfl ?_
    refine wp_imul dX8_likesAgain_16 (by omega) ?_
    refine wp_iconst dX8_likesAgain_17 (by decide) ?_
    refine wp_iadd dX8_likesAgain_18 (by omega) ?_
    refine wp_aload_n dX8_likesAgain_19 rfl rfl ?_
    refine wp_get 69 rfl fl_RX8_57 rfl ⟨by omega, by omega⟩ dX8_likesAgain_20 rfl (v := 84) (sr_69_42 (M := M) hR) ?_
    refine wp_iload_n dX8_likesAgain_23 rfl rfl ?_
    refine wp_iald 84 rfl rfl ⟨by omega, by omega⟩ ⟨by omega, by omega⟩ dX8_likesAgain_24 (v := (A.2 2 q)) (hl q (by omega) (by omega)) ?_
    refine wp_iast 74 rfl rfl ⟨by omega, by omega⟩ ⟨by omega, by omega⟩ dX8_likesAgain_25 (jn := (4 * q + 1)) (by omega) ?_
    refine wp_iinc (loc' := [(2, 69), (0, ((q : Int) + 1))]) dX8_likesAgain_26 rfl (by omega) rfl ?_
    refine wp_goto (tgt := 2) dX8_likesAgain_29 (by decide) ?_
    have f1 : Fr VMz M (mu M 74 (4 * q + 1) (A.2 2 q)) := Fr.rf.put (by unfold VMz; omega)
    exact ih (q + 1) _ Q (by omega) (VMz.sr f1 hR) hA.mix (fun i h1 h2 => hl i h1 h2) (fun M2 A2 F2 => k M2 A2 (f1.tr F2))
set_option maxRecDepth 20000 in
set_option maxHeartbeats 4000000 in
theorem sp_lgm  {l : Launch} {g : Gw} {d n : Nat} {M : Mm} {Q : Option Wd → Mm → Prop} (hn : 90 ≤ n) {A : Ls} {E : Ev} {s : Int} (hI : MJ M (drwA A s) E) (hW : Wf A) {N : Nat} (hN : A.1 2 = (N : Int)) (hl : LWm M A N) (k : ∀ M', MJ M' A E → Fr VMz M M' → Q none M') : Wp l g d 0 0 n m_X8_likesAgain 0 [] [(2, 69), (9, 0)] M Q := by
  have w5 := hW.2.1
  refine wp_iconst dX8_likesAgain_0 (by decide) ?_
  refine wp_istore_n (loc' := [(2, 69), (0, 0)]) dX8_likesAgain_1 rfl (Nat.le_of_ble_eq_true rfl) rfl ?_
  exact lp_lgm hn hN (by omega) N 0 M Q (by omega) hI.1 hI.2.1.mix0 hl (fun M1 a1 f1 => k M1 (hI.drw f1 a1 hW rfl) f1)
/-- cells that drawn and chance change -/
def VMy (i j : Nat) : Prop := VMo i j ∨ i = 74 ∨ i = 84
theorem VMy.sr {M M' : Mm} (h : Fr VMy M M') (hR : SR M) : SR M' := hR.frL h (by unfold VMy VMo VMs; decide +kernel)
theorem VMo.y : ∀ i j, VMo i j → VMy i j := fun i j h => Or.inl h
theorem VMz.y : ∀ i j, VMz i j → VMy i j := fun i j h => Or.inr h
theorem LWm.fr {M M' : Mm} {A : Ls} {n : Nat} (h : LWm M A n) (f : Fr VMo M M') : LWm M' A n := fun i h1 h2 => (f 84 i (by unfold VMo VMs; omega)).trans (h i h1 h2)
set_option maxRecDepth 20000 in
set_option maxHeartbeats 4000000 in
theorem cm_drawn {l : Launch} {g : Gw} {d n : Nat} {M : Mm} {Q : Option Wd → Mm → Prop} (hn : 90 ≤ n) {A : Ls} {E : Ev} (hI : MJ M A E) (hd : 74 ≤ d) (s : Int) (k : ∀ M', MJ M' A E → Fr VMy M M' → Q (some (0, ((flA E (drwA A s)).length : Int))) M') : Wp l g d 0 0 n m_X8_drawn 0 [] [(2, 69), (0, s)] M Q := by
  obtain ⟨hR, hA, hW, hr, hX⟩ := id hI
  have w2 := hW.1
  have w5 := hW.2.1
  have w3 := hW.2.2.1
  have w32 := hW.2.2.2.1
  have hok := lnA_ok hW
  have hll := lnA_len A
  have hN3 : A.1 3 = ((lnA A).length : Int) := by omega
  obtain ⟨N2, hN2⟩ := Int.eq_ofNat_of_zero_le w2
  refine wp_aload_n dX8_drawn_0 rfl rfl ?_
  refine wp_iload_n dX8_drawn_1 rfl rfl ?_
  refine wp_callV0 (d' := d - 1) cv_RX8_451 69 rfl [(0, s)] [] rfl rfl (Or.inl ⟨_, _, rfl, by decide, rfl, by omega, by omega⟩) (by omega) (Nat.le_of_ble_eq_true rfl) dX8_drawn_2 rfl (Nat.le_of_ble_eq_true rfl) (by omega) (loc1 := [(2, 69), (0, s), (9, 0), (9, 0)]) rfl ?_
  refine sp_drm hn hI s hN2 (fun M1 I1 L1 F1 => ?_)
  refine wp_aload_n dX8_drawn_5 rfl rfl ?_
  refine wp_callV0 (d' := d - 1) cv_RX8_401 69 rfl [] [] rfl rfl (Or.inl ⟨_, _, rfl, by decide, rfl, by omega, by omega⟩) (by omega) (Nat.le_of_ble_eq_true rfl) dX8_drawn_6 rfl (Nat.le_of_ble_eq_true rfl) (by omega) (loc1 := [(2, 69), (9, 0), (9, 0), (9, 0), (9, 0)]) rfl ?_
  refine sp_grw hn I1 (by omega) (fun M2 G2 T2 F2 => ?_)
  refine wp_aload_n dX8_drawn_9 rfl rfl ?_
  refine wp_callV0 (d' := d - 1) cv_RX8_454 69 rfl [] [] rfl rfl (Or.inl ⟨_, _, rfl, by decide, rfl, by omega, by omega⟩) (by omega) (Nat.le_of_ble_eq_true rfl) dX8_drawn_10 rfl (Nat.le_of_ble_eq_true rfl) (by omega) (loc1 := [(2, 69), (9, 0)]) rfl ?_
  refine sp_lgm hn G2.1 hW hN2 (L1.fr F2) (fun M3 I3 F3 => ?_)
  have e3 : M3 69 30 = ((flA E (drwA A s)).length : Int) := (F3 69 30 (by unfold VMz; omega)).trans G2.2.1.1
  refine wp_aload_n dX8_drawn_13 rfl rfl ?_
  refine wp_get 69 rfl fl_RX8_371 rfl ⟨by omega, by omega⟩ dX8_drawn_14 rfl (v := ((flA E (drwA A s)).length : Int)) (e3) ?_
  refine wp_iret rfl dX8_drawn_17 ?_
  exact k M3 I3 ((F1.mono VMz.y).tr ((F2.mono VMo.y).tr (F3.mono VMz.y)))
set_option maxRecDepth 20000 in
set_option maxHeartbeats 4000000 in
theorem lp_chm  {l : Launch} {g : Gw} {d n : Nat} (hn : 90 ≤ n) (hd : 76 ≤ d) {E : Ev} {A : Ls} {s a pt : Int} {N N2 : Nat} (hN : N ≤ 10) (hN2 : A.1 2 = (N2 : Int)) : ∀ (m q : Nat) (c : Int) (M : Mm) (Q : Option Wd → Mm → Prop), q + m = N → (0 ≤ c ∧ c ≤ (q : Int)) → MJ M A E → (∀ M' u, MJ M' A E → Fr VMy M M' → Wp l g d 0 0 n m_X8_chance 87 [] [(2, 69), (0, s), (0, (N : Int)), (0, a), (0, pt), (1, chA E A s a m q c), (9, 0), (0, u), (9, 0), (9, 0), (9, 0), (9, 0), (9, 0)] M' Q) → Wp l g d 0 0 n m_X8_chance 41 [] [(2, 69), (0, s), (0, (N : Int)), (0, a), (0, pt), (1, c), (9, 0), (0, (q : Int)), (9, 0), (9, 0), (9, 0), (9, 0), (9, 0)] M Q := by
  intro m
  induction m with
  | zero =>
    intro q c M Q hm hc hI k
    obtain ⟨hR, hA, hW, hr, hX⟩ := id hI
    have w2 := hW.1
    have w5 := hW.2.1
    have w3 := hW.2.2.1
    have w32 := hW.2.2.2.1
    refine wp_iload dX8_chance_41 rfl ?_
    refine wp_iload_n dX8_chance_43 rfl rfl ?_
    refine wp_icmp_ge (tgt := 87) dX8_chance_44 (by decide) (fun _ => ?_) (fun h => absurd h (by omega))
    exact k M _ hI Fr.rf
  | succ m ih =>
    intro q c M Q hm hc hI k
    obtain ⟨hR, hA, hW, hr, hX⟩ := id hI
    have w2 := hW.1
    have w5 := hW.2.1
    have w3 := hW.2.2.1
    have w32 := hW.2.2.2.1
    refine wp_iload dX8_chance_41 rfl ?_
    refine wp_iload_n dX8_chance_43 rfl rfl ?_
    refine wp_icmp_ge (tgt := 87) dX8_chance_44 (by decide) (fun h => absurd h (by omega)) (fun _ => ?_)
    refine wp_aload_n dX8_chance_47 rfl rfl ?_
    refine wp_iload_n dX8_chance_48 rfl rfl ?_
    refine wp_iload dX8_chance_49 rfl ?_
    refine wp_iaddw dX8_chance_51 ?_
    refine wp_callV0 (d' := d - 1) cv_RX8_451 69 rfl [(0, (wrap (s + (q : Int))))] [] rfl rfl (Or.inl ⟨_, _, rfl, by decide, rfl, by omega, by omega⟩) (by omega) (Nat.le_of_ble_eq_true rfl) dX8_chance_52 rfl (Nat.le_of_ble_eq_true rfl) (by omega) (loc1 := [(2, 69), (0, (wrap (s + (q : Int)))), (9, 0), (9, 0)]) rfl ?_
    refine sp_drm hn hI (wrap (s + (q : Int))) hN2 (fun M1 I1 L1 F1 => ?_)
    refine wp_aload_n dX8_chance_55 rfl rfl ?_
    refine wp_iload_n dX8_chance_56 rfl rfl ?_
    refine wp_callV0 (d' := d - 1) cv_RX8_416 69 rfl [(0, a)] [] rfl rfl (Or.inl ⟨_, _, rfl, by decide, rfl, by omega, by omega⟩) (by omega) (Nat.le_of_ble_eq_true rfl) dX8_chance_57 rfl (Nat.le_of_ble_eq_true rfl) (by omega) (loc1 := [(2, 69), (0, a), (9, 0), (9, 0)]) rfl ?_
    refine sp_lkm hn I1 (by omega) a (fun M2 G2 a2 b2 F2 => ?_)
    have h0 : M2 69 36 = 0 ↔ lsB E (drwA A (wrap (s + (q : Int)))) a = 0 := by
      by_cases hla : plA (drwA A (wrap (s + (q : Int)))) a = -1
      · have hh := look_out G2 hla
        rw [a2, hh.1, hh.2]
        show (-1 : Int) = 0 ↔ (5 : Int) = 0
        omega
      · rw [a2, look_in G2 hla]
    refine wp_lload dX8_chance_60 rfl ?_
    refine wp_aload_n dX8_chance_62 rfl rfl ?_
    refine wp_get 69 rfl fl_RX8_410 rfl ⟨by omega, by omega⟩ dX8_chance_63 rfl (v := (M2 69 36)) (rfl) ?_
    refine wp_if_ne (tgt := 73) dX8_chance_66 (by decide) (fun h66 => ?_) (fun h66 => ?_)
    · refine wp_lconst (v := 0) dX8_chance_73 (by decide) (by decide) ?_
      refine wp_ladd dX8_chance_74 ?_
      refine wp_lstore (loc' := [(2, 69), (0, s), (0, (N : Int)), (0, a), (0, pt), (1, (wrapl (c + 0))), (9, 0), (0, (q : Int)), (9, 0), (9, 0), (9, 0), (9, 0), (9, 0)]) dX8_chance_75 (Nat.le_of_ble_eq_true rfl) rfl ?_
      refine wp_aload_n dX8_chance_77 rfl rfl ?_
      refine wp_callV0 (d' := d - 1) cv_RX8_454 69 rfl [] [] rfl rfl (Or.inl ⟨_, _, rfl, by decide, rfl, by omega, by omega⟩) (by omega) (Nat.le_of_ble_eq_true rfl) dX8_chance_78 rfl (Nat.le_of_ble_eq_true rfl) (by omega) (loc1 := [(2, 69), (9, 0)]) rfl ?_
      refine sp_lgm hn G2.1 hW hN2 (L1.fr F2) (fun M3 I3 F3 => ?_)
      refine wp_iinc (loc' := [(2, 69), (0, s), (0, (N : Int)), (0, a), (0, pt), (1, (wrapl (c + 0))), (9, 0), (0, ((q : Int) + 1)), (9, 0), (9, 0), (9, 0), (9, 0), (9, 0)]) dX8_chance_81 rfl (by omega) rfl ?_
      refine wp_goto (tgt := 41) dX8_chance_84 (by decide) ?_
      have FF : Fr VMy M M3 := (F1.mono VMz.y).tr ((F2.mono VMo.y).tr (F3.mono VMz.y))
      have e : chA E A s a (m + 1) q c = chA E A s a m (q + 1) c := by
        show chA E A s a m (q + 1) (if lsB E (drwA A (wrap (s + (q : Int)))) a = 0 then c + 1 else c) = _
        rw [if_neg (fun h => h66 (h0.mpr h))]
      rw [e] at k
      rw [show (wrapl (c + 0)) = c by rw [wrapl_id (by omega)]; omega]
      exact ih (q + 1) _ M3 Q (by omega) (by omega) I3 (fun M9 u9 I9 F9 => k M9 u9 I9 (FF.tr F9))
    · refine wp_lconst (v := 1) dX8_chance_69 (by decide) (by decide) ?_
      refine wp_goto (tgt := 74) dX8_chance_70 (by decide) ?_
      refine wp_ladd dX8_chance_74 ?_
      refine wp_lstore (loc' := [(2, 69), (0, s), (0, (N : Int)), (0, a), (0, pt), (1, (wrapl (c + 1))), (9, 0), (0, (q : Int)), (9, 0), (9, 0), (9, 0), (9, 0), (9, 0)]) dX8_chance_75 (Nat.le_of_ble_eq_true rfl) rfl ?_
      refine wp_aload_n dX8_chance_77 rfl rfl ?_
      refine wp_callV0 (d' := d - 1) cv_RX8_454 69 rfl [] [] rfl rfl (Or.inl ⟨_, _, rfl, by decide, rfl, by omega, by omega⟩) (by omega) (Nat.le_of_ble_eq_true rfl) dX8_chance_78 rfl (Nat.le_of_ble_eq_true rfl) (by omega) (loc1 := [(2, 69), (9, 0)]) rfl ?_
      refine sp_lgm hn G2.1 hW hN2 (L1.fr F2) (fun M3 I3 F3 => ?_)
      refine wp_iinc (loc' := [(2, 69), (0, s), (0, (N : Int)), (0, a), (0, pt), (1, (wrapl (c + 1))), (9, 0), (0, ((q : Int) + 1)), (9, 0), (9, 0), (9, 0), (9, 0), (9, 0)]) dX8_chance_81 rfl (by omega) rfl ?_
      refine wp_goto (tgt := 41) dX8_chance_84 (by decide) ?_
      have FF : Fr VMy M M3 := (F1.mono VMz.y).tr ((F2.mono VMo.y).tr (F3.mono VMz.y))
      have e : chA E A s a (m + 1) q c = chA E A s a m (q + 1) (c + 1) := by
        show chA E A s a m (q + 1) (if lsB E (drwA A (wrap (s + (q : Int)))) a = 0 then c + 1 else c) = _
        rw [if_pos (h0.mp h66)]
      rw [e] at k
      rw [show (wrapl (c + 1)) = c + 1 by rw [wrapl_id (by omega)]]
      exact ih (q + 1) _ M3 Q (by omega) (by omega) I3 (fun M9 u9 I9 F9 => k M9 u9 I9 (FF.tr F9))
/-- the common part, by remainders -/
def gdA : Nat → Nat → Nat → Nat
  | 0, x, _ => x
  | f + 1, x, y => if y = 0 then x else gdA f y (x % y)
theorem gd_eq : ∀ m : Nat, m < 11 → ∀ x : Nat, x < 11 → m = 0 ∨ m < x ∨ (gdA 12 x m ≠ 0 ∧ ((gdA 12 x m : Nat) : Int) = cmp' (x : Int) (m : Int) (m - 1)) := by decide +kernel
set_option maxRecDepth 20000 in
set_option maxHeartbeats 4000000 in
theorem lp_gd  {l : Launch} {g : Gw} {d n : Nat} {M : Mm} {Q : Option Wd → Mm → Prop} {s N a pt c : Int} : ∀ (f x y : Nat) (u11 u12 : Wd), y ≤ f → (∀ y1 v11 v12, Wp l g d 0 0 n m_X8_chance 120 [] [(2, 69), (0, s), (0, N), (0, a), (0, pt), (1, c), (9, 0), (1, ((gdA f x y : Nat) : Int)), (9, 0), (1, y1), (9, 0), v11, v12] M Q) → Wp l g d 0 0 n m_X8_chance 95 [] [(2, 69), (0, s), (0, N), (0, a), (0, pt), (1, c), (9, 0), (1, (x : Int)), (9, 0), (1, (y : Int)), (9, 0), u11, u12] M Q := by
  intro f
  induction f with
  | zero =>
    intro x y u11 u12 hy k
    refine wp_lload dX8_chance_95 rfl ?_
    refine wp_lconst (v := 0) dX8_chance_97 (by decide) (by decide) ?_
    refine wp_lcmp dX8_chance_98 ?_
    refine wp_if_eq (tgt := 120) dX8_chance_99 (by decide) (fun _ => ?_) (fun h => absurd h (by rw [show lcp (y : Int) 0 = 0 from lcp_eq.mpr (by omega)]; exact fun h => h rfl))
    exact k _ _ _
  | succ f ih =>
    intro x y u11 u12 hy k
    refine wp_lload dX8_chance_95 rfl ?_
    refine wp_lconst (v := 0) dX8_chance_97 (by decide) (by decide) ?_
    refine wp_lcmp dX8_chance_98 ?_
    refine wp_if_eq (tgt := 120) dX8_chance_99 (by decide) (fun h99 => ?_) (fun h99 => ?_)
    · have e : gdA (f + 1) x y = x := if_pos (by have := lcp_eq.mp h99; omega)
      rw [e] at k
      exact k _ _ _
    · refine wp_lload dX8_chance_102 rfl ?_
      refine wp_lload dX8_chance_104 rfl ?_
      refine wp_lrem dX8_chance_106 (by have h : ¬ (y : Int) = 0 := fun e => h99 (lcp_eq.mpr e); omega) ?_
      refine wp_lstore (loc' := [(2, 69), (0, s), (0, N), (0, a), (0, pt), (1, c), (9, 0), (1, (x : Int)), (9, 0), (1, (y : Int)), (9, 0), (1, (Int.tmod (x : Int) (y : Int))), (9, 0)]) dX8_chance_107 (Nat.le_of_ble_eq_true rfl) rfl ?_
      refine wp_lload dX8_chance_109 rfl ?_
      refine wp_lstore (loc' := [(2, 69), (0, s), (0, N), (0, a), (0, pt), (1, c), (9, 0), (1, (y : Int)), (9, 0), (1, (y : Int)), (9, 0), (1, (Int.tmod (x : Int) (y : Int))), (9, 0)]) dX8_chance_111 (Nat.le_of_ble_eq_true rfl) rfl ?_
      refine wp_lload dX8_chance_113 rfl ?_
      refine wp_lstore (loc' := [(2, 69), (0, s), (0, N), (0, a), (0, pt), (1, c), (9, 0), (1, (y : Int)), (9, 0), (1, (Int.tmod (x : Int) (y : Int))), (9, 0), (1, (Int.tmod (x : Int) (y : Int))), (9, 0)]) dX8_chance_115 (Nat.le_of_ble_eq_true rfl) rfl ?_
      refine wp_goto (tgt := 95) dX8_chance_117 (by decide) ?_
      have e : gdA (f + 1) x y = gdA f y (x % y) := if_neg (fun h => h99 (lcp_eq.mpr (by omega)))
      rw [e] at k
      rw [show Int.tmod (x : Int) (y : Int) = ((x % y : Nat) : Int) from (Int.tmod_eq_emod_of_nonneg (by omega)).trans (by omega)]
      exact ih y (x % y) _ _ (by have := Nat.mod_lt x (show 0 < y from Nat.pos_of_ne_zero (fun h => h99 (lcp_eq.mpr (by omega)))); omega) k
set_option maxRecDepth 20000 in
set_option maxHeartbeats 4000000 in
theorem cm_chance {l : Launch} {g : Gw} {d n : Nat} {M : Mm} {Q : Option Wd → Mm → Prop} (hn : 90 ≤ n) {A : Ls} {E : Ev} (hI : MJ M A E) (hd : 80 ≤ d) (s m a pt : Int) (kB : ¬ (1 ≤ m ∧ m ≤ 10 ∧ 0 ≤ a ∧ a < A.1 2 ∧ 0 ≤ pt ∧ pt ≤ 1) → Q (some (1, (-4611686018427387904))) M) (k : (1 ≤ m ∧ m ≤ 10 ∧ 0 ≤ a ∧ a < A.1 2 ∧ 0 ≤ pt ∧ pt ≤ 1) → ∀ M', MJ M' A E → Fr VMy M M' → Q (some (1, rsC (chA E A s a m.toNat 0 0) m pt)) M') : Wp l g d 0 0 n m_X8_chance 0 [] [(2, 69), (0, s), (0, m), (0, a), (0, pt), (9, 0), (9, 0), (9, 0), (9, 0), (9, 0), (9, 0), (9, 0), (9, 0)] M Q := by
  obtain ⟨hR, hA, hW, hr, hX⟩ := id hI
  have w2 := hW.1
  have w5 := hW.2.1
  have w3 := hW.2.2.1
  have w32 := hW.2.2.2.1
  have hok := lnA_ok hW
  have hll := lnA_len A
  have hN3 : A.1 3 = ((lnA A).length : Int) := by omega
  obtain ⟨N2, hN2⟩ := Int.eq_ofNat_of_zero_le w2
  by_cases hk : (1 ≤ m ∧ m ≤ 10 ∧ 0 ≤ a ∧ a < A.1 2 ∧ 0 ≤ pt ∧ pt ≤ 1)
  · obtain ⟨N, rfl⟩ := Int.eq_ofNat_of_zero_le (show 0 ≤ m by omega)
    refine wp_iload_n dX8_chance_0 rfl rfl ?_
    refine wp_i2l dX8_chance_1 ?_
    refine wp_lconst (v := 1) dX8_chance_2 (by decide) (by decide) ?_
    refine wp_ldc2 (x := 10) dX8_chance_3 kl_RX8_179 (by decide) (wr_l (by omega)) ?_
    refine wp_callS0 (d' := d - 1) cs_RX8_91 [(1, (N : Int)), (1, 1), (1, 10)] [] rfl rfl (Nat.le_of_ble_eq_true rfl) dX8_chance_6 rfl (Nat.le_of_ble_eq_true rfl) (by omega) (loc1 := [(1, (N : Int)), (9, 0), (1, 1), (9, 0), (1, 10), (9, 0)]) rfl ?_
    refine sp_in (N : Int) 1 10 (fun i6 => ?_) (fun i6 => ?_)
    · refine wp_if_eq (tgt := 31) dX8_chance_9 (by decide) (fun h => absurd h (by decide)) (fun _ => ?_)
      refine wp_aload_n dX8_chance_12 rfl rfl ?_
      refine wp_iload_n dX8_chance_13 rfl rfl ?_
      refine wp_callV0 (d' := d - 1) cv_RX8_97 69 rfl [(0, a)] [] rfl rfl (Or.inl ⟨_, _, rfl, by decide, rfl, by omega, by omega⟩) (by omega) (Nat.le_of_ble_eq_true rfl) dX8_chance_14 rfl (Nat.le_of_ble_eq_true rfl) (by omega) (loc1 := [(2, 69), (0, a)]) rfl ?_
      refine sp_isOne hn hI (by omega) a (fun o14 => ?_) (fun o14 => ?_)
      · refine wp_if_eq (tgt := 31) dX8_chance_17 (by decide) (fun h => absurd h (by decide)) (fun _ => ?_)
        refine wp_iload dX8_chance_20 rfl ?_
        refine wp_i2l dX8_chance_22 ?_
        refine wp_lconst (v := 0) dX8_chance_23 (by decide) (by decide) ?_
        refine wp_lconst (v := 1) dX8_chance_24 (by decide) (by decide) ?_
        refine wp_callS0 (d' := d - 1) cs_RX8_91 [(1, pt), (1, 0), (1, 1)] [] rfl rfl (Nat.le_of_ble_eq_true rfl) dX8_chance_25 rfl (Nat.le_of_ble_eq_true rfl) (by omega) (loc1 := [(1, pt), (9, 0), (1, 0), (9, 0), (1, 1), (9, 0)]) rfl ?_
        refine sp_in pt 0 1 (fun i25 => ?_) (fun i25 => ?_)
        · refine wp_if_ne (tgt := 35) dX8_chance_28 (by decide) (fun _ => ?_) (fun h => absurd h (by decide))
          refine wp_lconst (v := 0) dX8_chance_35 (by decide) (by decide) ?_
          refine wp_lstore (loc' := [(2, 69), (0, s), (0, (N : Int)), (0, a), (0, pt), (1, 0), (9, 0), (9, 0), (9, 0), (9, 0), (9, 0), (9, 0), (9, 0)]) dX8_chance_36 (Nat.le_of_ble_eq_true rfl) rfl ?_
          refine wp_iconst dX8_chance_38 (by decide) ?_
          refine wp_istore (loc' := [(2, 69), (0, s), (0, (N : Int)), (0, a), (0, pt), (1, 0), (9, 0), (0, 0), (9, 0), (9, 0), (9, 0), (9, 0), (9, 0)]) dX8_chance_39 (Nat.le_of_ble_eq_true rfl) rfl ?_
          refine lp_chm hn (by omega) (N := N) (by omega) hN2 N 0 0 M Q (by omega) (by omega) hI (fun M1 u I1 F1 => ?_)
          obtain ⟨x, hx⟩ := Int.eq_ofNat_of_zero_le (show 0 ≤ chA E A s a N 0 0 from (chA_r E A s a N 0 0).1)
          have hx10 : x ≤ N := by have := (chA_r E A s a N 0 0).2; omega
          have hge := gd_eq N (by omega) x (by omega)
          obtain ⟨hg0, hg⟩ : gdA 12 x N ≠ 0 ∧ ((gdA 12 x N : Nat) : Int) = cmp' (x : Int) (N : Int) (N - 1) := by rcases hge with h | h | h <;> first | omega | exact h
          rw [hx]
          refine wp_lload dX8_chance_87 rfl ?_
          refine wp_lstore (loc' := [(2, 69), (0, s), (0, (N : Int)), (0, a), (0, pt), (1, (x : Int)), (9, 0), (1, (x : Int)), (9, 0), (9, 0), (9, 0), (9, 0), (9, 0)]) dX8_chance_89 (Nat.le_of_ble_eq_true rfl) rfl ?_
          refine wp_iload_n dX8_chance_91 rfl rfl ?_
          refine wp_i2l dX8_chance_92 ?_
          refine wp_lstore (loc' := [(2, 69), (0, s), (0, (N : Int)), (0, a), (0, pt), (1, (x : Int)), (9, 0), (1, (x : Int)), (9, 0), (1, (N : Int)), (9, 0), (9, 0), (9, 0)]) dX8_chance_93 (Nat.le_of_ble_eq_true rfl) rfl ?_
          refine lp_gd 12 x N _ _ (by omega) (fun y1 v11 v12 => ?_)
          refine wp_iload dX8_chance_120 rfl ?_
          refine wp_if_ne (tgt := 133) dX8_chance_122 (by decide) (fun h122 => ?_) (fun h122 => ?_)
          · refine wp_iload_n dX8_chance_133 rfl rfl ?_
            refine wp_i2l dX8_chance_134 ?_
            refine wp_lload dX8_chance_135 rfl ?_
            refine wp_ldiv dX8_chance_137 (by omega) ?_
            refine wp_lret rfl dX8_chance_138 ?_
            have q0 := k (by omega) M1 I1 F1
            rw [show (((N : Nat) : Int)).toNat = N from rfl, hx] at q0
            unfold rsC at q0
            rw [show (((N : Nat) : Int)).toNat - 1 = N - 1 from rfl, ← hg] at q0
            rw [if_neg h122] at q0
            exact q0
          · refine wp_lload dX8_chance_125 rfl ?_
            refine wp_lload dX8_chance_127 rfl ?_
            refine wp_ldiv dX8_chance_129 (by omega) ?_
            refine wp_goto (tgt := 138) dX8_chance_130 (by decide) ?_
            refine wp_lret rfl dX8_chance_138 ?_
            have q0 := k (by omega) M1 I1 F1
            rw [show (((N : Nat) : Int)).toNat = N from rfl, hx] at q0
            unfold rsC at q0
            rw [show (((N : Nat) : Int)).toNat - 1 = N - 1 from rfl, ← hg] at q0
            rw [if_pos h122] at q0
            exact q0
        · refine wp_if_ne (tgt := 35) dX8_chance_28 (by decide) (fun h => absurd h (by decide)) (fun _ => ?_)
          refine wp_ldc2 (x := -4611686018427387904) dX8_chance_31 kl_RX8_457 (by decide) (wr_l (by omega)) ?_
          refine wp_lret rfl dX8_chance_34 ?_
          exact kB (by omega)
      · refine wp_if_eq (tgt := 31) dX8_chance_17 (by decide) (fun _ => ?_) (fun h => absurd h (by decide))
        refine wp_ldc2 (x := -4611686018427387904) dX8_chance_31 kl_RX8_457 (by decide) (wr_l (by omega)) ?_
        refine wp_lret rfl dX8_chance_34 ?_
        exact kB (by omega)
    · refine wp_if_eq (tgt := 31) dX8_chance_9 (by decide) (fun _ => ?_) (fun h => absurd h (by decide))
      refine wp_ldc2 (x := -4611686018427387904) dX8_chance_31 kl_RX8_457 (by decide) (wr_l (by omega)) ?_
      refine wp_lret rfl dX8_chance_34 ?_
      exact kB (by omega)
  · refine wp_iload_n dX8_chance_0 rfl rfl ?_
    refine wp_i2l dX8_chance_1 ?_
    refine wp_lconst (v := 1) dX8_chance_2 (by decide) (by decide) ?_
    refine wp_ldc2 (x := 10) dX8_chance_3 kl_RX8_179 (by decide) (wr_l (by omega)) ?_
    refine wp_callS0 (d' := d - 1) cs_RX8_91 [(1, m), (1, 1), (1, 10)] [] rfl rfl (Nat.le_of_ble_eq_true rfl) dX8_chance_6 rfl (Nat.le_of_ble_eq_true rfl) (by omega) (loc1 := [(1, m), (9, 0), (1, 1), (9, 0), (1, 10), (9, 0)]) rfl ?_
    refine sp_in m 1 10 (fun i6 => ?_) (fun i6 => ?_)
    · refine wp_if_eq (tgt := 31) dX8_chance_9 (by decide) (fun h => absurd h (by decide)) (fun _ => ?_)
      refine wp_aload_n dX8_chance_12 rfl rfl ?_
      refine wp_iload_n dX8_chance_13 rfl rfl ?_
      refine wp_callV0 (d' := d - 1) cv_RX8_97 69 rfl [(0, a)] [] rfl rfl (Or.inl ⟨_, _, rfl, by decide, rfl, by omega, by omega⟩) (by omega) (Nat.le_of_ble_eq_true rfl) dX8_chance_14 rfl (Nat.le_of_ble_eq_true rfl) (by omega) (loc1 := [(2, 69), (0, a)]) rfl ?_
      refine sp_isOne hn hI (by omega) a (fun o14 => ?_) (fun o14 => ?_)
      · refine wp_if_eq (tgt := 31) dX8_chance_17 (by decide) (fun h => absurd h (by decide)) (fun _ => ?_)
        refine wp_iload dX8_chance_20 rfl ?_
        refine wp_i2l dX8_chance_22 ?_
        refine wp_lconst (v := 0) dX8_chance_23 (by decide) (by decide) ?_
        refine wp_lconst (v := 1) dX8_chance_24 (by decide) (by decide) ?_
        refine wp_callS0 (d' := d - 1) cs_RX8_91 [(1, pt), (1, 0), (1, 1)] [] rfl rfl (Nat.le_of_ble_eq_true rfl) dX8_chance_25 rfl (Nat.le_of_ble_eq_true rfl) (by omega) (loc1 := [(1, pt), (9, 0), (1, 0), (9, 0), (1, 1), (9, 0)]) rfl ?_
        refine sp_in pt 0 1 (fun i25 => ?_) (fun i25 => ?_)
        · refine wp_if_ne (tgt := 35) dX8_chance_28 (by decide) (fun _ => ?_) (fun h => absurd h (by decide))
          exfalso
          omega
        · refine wp_if_ne (tgt := 35) dX8_chance_28 (by decide) (fun h => absurd h (by decide)) (fun _ => ?_)
          refine wp_ldc2 (x := -4611686018427387904) dX8_chance_31 kl_RX8_457 (by decide) (wr_l (by omega)) ?_
          refine wp_lret rfl dX8_chance_34 ?_
          exact kB (by omega)
      · refine wp_if_eq (tgt := 31) dX8_chance_17 (by decide) (fun _ => ?_) (fun h => absurd h (by decide))
        refine wp_ldc2 (x := -4611686018427387904) dX8_chance_31 kl_RX8_457 (by decide) (wr_l (by omega)) ?_
        refine wp_lret rfl dX8_chance_34 ?_
        exact kB (by omega)
    · refine wp_if_eq (tgt := 31) dX8_chance_9 (by decide) (fun _ => ?_) (fun h => absurd h (by decide))
      refine wp_ldc2 (x := -4611686018427387904) dX8_chance_31 kl_RX8_457 (by decide) (wr_l (by omega)) ?_
      refine wp_lret rfl dX8_chance_34 ?_
      exact kB (by omega)
