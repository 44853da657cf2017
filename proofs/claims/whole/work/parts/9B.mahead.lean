/-! ===== the model: friendOf, ahead, draws, drawn, chance ===== -/
theorem setA_back {A : Ls} {r i : Nat} {v : Int} : setA (setA A r i v) r i (A.2 r i) = A := by
  show (A.1, mu (mu A.2 r i v) r i (A.2 r i)) = A
  have : mu (mu A.2 r i v) r i (A.2 r i) = A.2 := by
    funext a b
    by_cases c : a = r
    · subst c
      by_cases c2 : b = i
      · subst c2
        rw [mu_self]
      · rw [mu_nj _ _ _ c2, mu_nj _ _ _ c2]
    · rw [mu_ne _ _ _ c, mu_ne _ _ _ c]
  rw [this]
theorem whA_end {E : Ev} {A : Ls} {a : Int} (hW : Wf A) : ∀ (m q : Nat) (ls f : Int), A.1 2 ≤ (q : Int) → whA E A a m q ls f = f
  | 0, _, _, _, _ => rfl
  | m + 1, q, ls, f, h => by
    unfold whA
    have hp : plA A (q : Int) = -1 := by
      rcases fst_r (f := A.2 5) (x := (q : Int)) (A.1 3).toNat 0 with e | ⟨j, _, b, _, d⟩
      · exact e
      · have := hW.2.2.2.2.1 j (by omega)
        omega
    rw [if_pos (Or.inr hp)]
    exact whA_end hW m (q + 1) ls f (by omega)
theorem ah_2 {E : Ev} {A : Ls} {a : Int} : ahdA E A a 2 = whA E A a 5 0 (lsB E A a) (-1) := by
  unfold ahdA
  rw [if_neg (by decide), if_neg (by decide)]
theorem ah_1 {E : Ev} {A : Ls} {a : Int} : ahdA E A a 1 = nerA E A a (lsB E A a) (flA E A).length 0 := by
  unfold ahdA
  rw [if_neg (by decide), if_pos rfl]
theorem ah_0 {E : Ev} {A : Ls} {a : Int} : ahdA E A a 0 = lsB E A a := by
  unfold ahdA
  rw [if_pos rfl]
/-- cells that trying likings changes -/
def VMp (i j : Nat) : Prop := VMo i j ∨ i = 74
theorem VMp.sr {M M' : Mm} (h : Fr VMp M M') (hR : SR M) : SR M' := hR.frL h (by unfold VMp VMo VMs; decide +kernel)
theorem VMo.p : ∀ i j, VMo i j → VMp i j := fun i j h => Or.inl h
set_option maxRecDepth 20000 in
set_option maxHeartbeats 4000000 in
theorem lp_frm  {l : Launch} {g : Gw} {d n : Nat} (hn : 90 ≤ n) (hd : 76 ≤ d) {E : Ev} {A : Ls} {a : Int} (hla : plA A a ≠ -1) {N : Nat} (hN2 : A.1 2 = (N : Int)) : ∀ (m q : Nat) (ls f : Int) (u5 : Wd) (M : Mm) (Q : Option Wd → Mm → Prop), q + m = N → MJ M A E → (∀ M', MJ M' A E → Fr VMp M M' → Q (some (0, whA E A a (5 - q) q ls f)) M') → Wp l g d 0 0 n m_X8_friendOf 15 [] [(2, 69), (0, a), (0, f), (0, ls), (0, (q : Int)), u5] M Q := by
  intro m
  induction m with
  | zero =>
    intro q ls f u5 M Q hm hI k
    obtain ⟨hR, hA, hW, hr, hX⟩ := id hI
    have w2 := hW.1
    have w5 := hW.2.1
    have w3 := hW.2.2.1
    have w32 := hW.2.2.2.1
    refine wp_iload dX8_friendOf_15 rfl ?_
    refine wp_aload_n dX8_friendOf_17 rfl rfl ?_
    refine wp_get 69 rfl fl_RX8_88 rfl ⟨by omega, by omega⟩ dX8_friendOf_18 rfl (v := (A.1 2)) (hA.2.2.1) ?_
    refine wp_icmp_ge (tgt := 119) dX8_friendOf_21 (by decide) (fun _ => ?_) (fun h => absurd h (by omega))
    refine wp_iload_n dX8_friendOf_119 rfl rfl ?_
    refine wp_iret rfl dX8_friendOf_120 ?_
    rw [whA_end hW _ q ls f (by omega)] at k
    exact k M hI Fr.rf
  | succ m ih =>
    intro q ls f u5 M Q hm hI k
    obtain ⟨hR, hA, hW, hr, hX⟩ := id hI
    have w2 := hW.1
    have w5 := hW.2.1
    have w3 := hW.2.2.1
    have w32 := hW.2.2.2.1
    refine wp_iload dX8_friendOf_15 rfl ?_
    refine wp_aload_n dX8_friendOf_17 rfl rfl ?_
    refine wp_get 69 rfl fl_RX8_88 rfl ⟨by omega, by omega⟩ dX8_friendOf_18 rfl (v := (A.1 2)) (hA.2.2.1) ?_
    refine wp_icmp_ge (tgt := 119) dX8_friendOf_21 (by decide) (fun h => absurd h (by omega)) (fun _ => ?_)
    refine wp_aload_n dX8_friendOf_24 rfl rfl ?_
    refine wp_iload_n dX8_friendOf_25 rfl rfl ?_
    refine wp_callV0 (d' := d - 1) cv_RX8_132 69 rfl [(0, a)] [] rfl rfl (Or.inl ⟨_, _, rfl, by decide, rfl, by omega, by omega⟩) (by omega) (Nat.le_of_ble_eq_true rfl) dX8_friendOf_26 rfl (Nat.le_of_ble_eq_true rfl) (by omega) (loc1 := [(2, 69), (0, a), (9, 0)]) rfl ?_
    refine sp_plm hn hI a ?_
    refine wp_iconst dX8_friendOf_29 (by decide) ?_
    refine wp_icmp_eq (tgt := 113) dX8_friendOf_30 (by decide) (fun h => absurd h (by omega)) (fun _ => ?_)
    refine wp_aload_n dX8_friendOf_33 rfl rfl ?_
    refine wp_iload dX8_friendOf_34 rfl ?_
    refine wp_callV0 (d' := d - 1) cv_RX8_132 69 rfl [(0, (q : Int))] [] rfl rfl (Or.inl ⟨_, _, rfl, by decide, rfl, by omega, by omega⟩) (by omega) (Nat.le_of_ble_eq_true rfl) dX8_friendOf_36 rfl (Nat.le_of_ble_eq_true rfl) (by omega) (loc1 := [(2, 69), (0, (q : Int)), (9, 0)]) rfl ?_
    refine sp_plm hn hI (q : Int) ?_
    refine wp_iconst dX8_friendOf_39 (by decide) ?_
    refine wp_icmp_eq (tgt := 113) dX8_friendOf_40 (by decide) (fun h40 => ?_) (fun h40 => ?_)
    · refine wp_iinc (loc' := [(2, 69), (0, a), (0, f), (0, ls), (0, ((q : Int) + 1)), u5]) dX8_friendOf_113 rfl (by omega) rfl ?_
      refine wp_goto (tgt := 15) dX8_friendOf_116 (by decide) ?_
      have e : whA E A a (5 - q) q ls f = whA E A a (5 - (q + 1)) (q + 1) ls f := by
        rw [show 5 - q = (5 - (q + 1)) + 1 by omega]
        exact if_pos (by omega)
      rw [e] at k
      exact ih (q + 1) ls f _ M Q (by omega) hI k
    · refine wp_iload dX8_friendOf_43 rfl ?_
      refine wp_iload_n dX8_friendOf_45 rfl rfl ?_
      refine wp_icmp_eq (tgt := 113) dX8_friendOf_46 (by decide) (fun h46 => ?_) (fun h46 => ?_)
      · refine wp_iinc (loc' := [(2, 69), (0, a), (0, f), (0, ls), (0, ((q : Int) + 1)), u5]) dX8_friendOf_113 rfl (by omega) rfl ?_
        refine wp_goto (tgt := 15) dX8_friendOf_116 (by decide) ?_
        have e : whA E A a (5 - q) q ls f = whA E A a (5 - (q + 1)) (q + 1) ls f := by
          rw [show 5 - q = (5 - (q + 1)) + 1 by omega]
          exact if_pos (by omega)
        rw [e] at k
        exact ih (q + 1) ls f _ M Q (by omega) hI k
      · refine wp_aload_n dX8_friendOf_49 rfl rfl ?_
        refine wp_get 69 rfl fl_RX8_26 rfl ⟨by omega, by omega⟩ dX8_friendOf_50 rfl (v := 74) (sr_69_9 (M := M) hR) ?_
        refine wp_iconst dX8_friendOf_53 (by decide) ?_
        refine wp_iload dX8_friendOf_54 rfl ?_
        refine wp_imul dX8_friendOf_56 (by omega) ?_
        refine wp_iconst dX8_friendOf_57 (by decide) ?_
        refine wp_iadd dX8_friendOf_58 (by omega) ?_
        refine wp_iald 74 rfl rfl ⟨by omega, by omega⟩ ⟨by omega, by omega⟩ dX8_friendOf_59 (v := (A.2 2 q)) (by rw [show (((4 * (q : Int)) + 1)).toNat = (4 * q + 1) by omega]; exact hA.2.2.2.2.2.1 1 q (by omega) (by omega)) ?_
        refine wp_istore (loc' := [(2, 69), (0, a), (0, f), (0, ls), (0, (q : Int)), (0, (A.2 2 q))]) dX8_friendOf_60 (Nat.le_of_ble_eq_true rfl) rfl ?_
        refine wp_aload_n dX8_friendOf_62 rfl rfl ?_
        refine wp_get 69 rfl fl_RX8_26 rfl ⟨by omega, by omega⟩ dX8_friendOf_63 rfl (v := 74) (sr_69_9 (M := M) hR) ?_
        refine wp_iconst dX8_friendOf_66 (by decide) ?_
        refine wp_iload dX8_friendOf_67 rfl ?_
        refine wp_imul dX8_friendOf_69 (by omega) ?_
        refine wp_iconst dX8_friendOf_70 (by decide) ?_
        refine wp_iadd dX8_friendOf_71 (by omega) ?_
        refine wp_iload dX8_friendOf_72 rfl ?_
        refine wp_iconst dX8_friendOf_74 (by decide) ?_
        refine wp_iload_n dX8_friendOf_75 rfl rfl ?_
        refine wp_ishl dX8_friendOf_76 ?_
        refine wp_ior dX8_friendOf_77 ?_
        refine wp_iast 74 rfl rfl ⟨by omega, by omega⟩ ⟨by omega, by omega⟩ dX8_friendOf_78 (jn := (4 * q + 1)) (by omega) ?_
        refine wp_aload_n dX8_friendOf_79 rfl rfl ?_
        refine wp_iload_n dX8_friendOf_80 rfl rfl ?_
        refine wp_callV0 (d' := d - 1) cv_RX8_416 69 rfl [(0, a)] [] rfl rfl (Or.inl ⟨_, _, rfl, by decide, rfl, by omega, by omega⟩) (by omega) (Nat.le_of_ble_eq_true rfl) dX8_friendOf_81 rfl (Nat.le_of_ble_eq_true rfl) (by omega) (loc1 := [(2, 69), (0, a), (9, 0), (9, 0)]) rfl ?_
        have g1 : Fr VMl M (mu M 74 (4 * q + 1) (bor (A.2 2 q) (shl 1 a))) := Fr.rf.put (by unfold VMl VMs; omega)
        have I1 : MJ (mu M 74 (4 * q + 1) (bor (A.2 2 q) (shl 1 a))) (befA A q a) E := hI.new g1 (hA.setR (r := 1) (i := q) (by omega)) (hW.aSet (r := 2) (by omega) (fun h => by omega)) hr
        have g1p : Fr VMp M (mu M 74 (4 * q + 1) (bor (A.2 2 q) (shl 1 a))) := Fr.rf.put (Or.inr rfl)
        generalize (mu M 74 (4 * q + 1) (bor (A.2 2 q) (shl 1 a))) = M1 at g1 I1 g1p ⊢
        refine sp_lkm hn I1 (by omega) a (fun M2 G2 a2 b2 F2 => ?_)
        have I2 := G2.1
        have R2 := I2.1
        have e2 : M2 69 36 = lsB E (befA A q a) a := a2.trans (congrArg Prod.fst (look_in G2 (show plA (befA A q a) a ≠ -1 from hla)))
        refine wp_aload_n dX8_friendOf_84 rfl rfl ?_
        refine wp_get 69 rfl fl_RX8_26 rfl ⟨by omega, by omega⟩ dX8_friendOf_85 rfl (v := 74) (sr_69_9 (M := M2) R2) ?_
        refine wp_iconst dX8_friendOf_88 (by decide) ?_
        refine wp_iload dX8_friendOf_89 rfl ?_
        refine wp_imul dX8_friendOf_91 (by omega) ?_
        refine wp_iconst dX8_friendOf_92 (by decide) ?_
        refine wp_iadd dX8_friendOf_93 (by omega) ?_
        refine wp_iload dX8_friendOf_94 rfl ?_
        refine wp_iast 74 rfl rfl ⟨by omega, by omega⟩ ⟨by omega, by omega⟩ dX8_friendOf_96 (jn := (4 * q + 1)) (by omega) ?_
        refine wp_aload_n dX8_friendOf_97 rfl rfl ?_
        refine wp_get 69 rfl fl_RX8_410 rfl ⟨by omega, by omega⟩ dX8_friendOf_98 rfl (v := (lsB E (befA A q a) a)) (e2) ?_
        refine wp_iload_n dX8_friendOf_101 rfl rfl ?_
        refine wp_icmp_ge (tgt := 113) dX8_friendOf_102 (by decide) (fun h102 => ?_) (fun h102 => ?_)
        · refine wp_iinc (loc' := [(2, 69), (0, a), (0, f), (0, ls), (0, ((q : Int) + 1)), (0, (A.2 2 q))]) dX8_friendOf_113 rfl (by omega) rfl ?_
          refine wp_goto (tgt := 15) dX8_friendOf_116 (by decide) ?_
          have g3 : Fr VMl M2 (mu M2 74 (4 * q + 1) (A.2 2 q)) := Fr.rf.put (by unfold VMl VMs; omega)
          have a3 : Rm (mu M2 74 (4 * q + 1) (A.2 2 q)) A := by
            have h : Rm (mu M2 74 (4 * q + 1) (A.2 2 q)) (setA (setA A 2 q (bor (A.2 2 q) (shl 1 a))) 2 q (A.2 2 q)) := I2.2.1.setR (r := 1) (i := q) (by omega)
            rw [setA_back] at h
            exact h
          have I3 : MJ (mu M2 74 (4 * q + 1) (A.2 2 q)) A E := I2.new g3 a3 hW (by rw [(F2 69 3 (by unfold VMo VMs; omega)), (g1 69 3 (by unfold VMl VMs; omega))]; exact hr)
          have F3 : Fr VMp M (mu M2 74 (4 * q + 1) (A.2 2 q)) := (g1p.tr (F2.mono VMo.p)).put (Or.inr rfl)
          have e : whA E A a (5 - q) q ls f = whA E A a (5 - (q + 1)) (q + 1) ls f := by
            rw [show 5 - q = (5 - (q + 1)) + 1 by omega]
            exact (if_neg (by omega)).trans (if_neg (by omega))
          rw [e] at k
          exact ih (q + 1) _ _ _ _ Q (by omega) I3 (fun M9 I9 F9 => k M9 I9 (F3.tr F9))
        · refine wp_iload dX8_friendOf_105 rfl ?_
          refine wp_istore_n (loc' := [(2, 69), (0, a), (0, (q : Int)), (0, ls), (0, (q : Int)), (0, (A.2 2 q))]) dX8_friendOf_107 rfl (Nat.le_of_ble_eq_true rfl) rfl ?_
          refine wp_aload_n dX8_friendOf_108 rfl rfl ?_
          refine wp_get 69 rfl fl_RX8_410 rfl ⟨by omega, by omega⟩ dX8_friendOf_109 rfl (v := (lsB E (befA A q a) a)) (e2) ?_
          refine wp_istore_n (loc' := [(2, 69), (0, a), (0, (q : Int)), (0, (lsB E (befA A q a) a)), (0, (q : Int)), (0, (A.2 2 q))]) dX8_friendOf_112 rfl (Nat.le_of_ble_eq_true rfl) rfl ?_
          refine wp_iinc (loc' := [(2, 69), (0, a), (0, (q : Int)), (0, (lsB E (befA A q a) a)), (0, ((q : Int) + 1)), (0, (A.2 2 q))]) dX8_friendOf_113 rfl (by omega) rfl ?_
          refine wp_goto (tgt := 15) dX8_friendOf_116 (by decide) ?_
          have g3 : Fr VMl M2 (mu M2 74 (4 * q + 1) (A.2 2 q)) := Fr.rf.put (by unfold VMl VMs; omega)
          have a3 : Rm (mu M2 74 (4 * q + 1) (A.2 2 q)) A := by
            have h : Rm (mu M2 74 (4 * q + 1) (A.2 2 q)) (setA (setA A 2 q (bor (A.2 2 q) (shl 1 a))) 2 q (A.2 2 q)) := I2.2.1.setR (r := 1) (i := q) (by omega)
            rw [setA_back] at h
            exact h
          have I3 : MJ (mu M2 74 (4 * q + 1) (A.2 2 q)) A E := I2.new g3 a3 hW (by rw [(F2 69 3 (by unfold VMo VMs; omega)), (g1 69 3 (by unfold VMl VMs; omega))]; exact hr)
          have F3 : Fr VMp M (mu M2 74 (4 * q + 1) (A.2 2 q)) := (g1p.tr (F2.mono VMo.p)).put (Or.inr rfl)
          have e : whA E A a (5 - q) q ls f = whA E A a (5 - (q + 1)) (q + 1) (lsB E (befA A q a) a) (q : Int) := by
            rw [show 5 - q = (5 - (q + 1)) + 1 by omega]
            exact (if_neg (by omega)).trans (if_pos (by omega))
          rw [e] at k
          exact ih (q + 1) _ _ _ _ Q (by omega) I3 (fun M9 I9 F9 => k M9 I9 (F3.tr F9))
set_option maxRecDepth 20000 in
set_option maxHeartbeats 4000000 in
theorem lp_fro {l : Launch} {g : Gw} {d n : Nat} {M : Mm} {Q : Option Wd → Mm → Prop} (hn : 90 ≤ n) {A : Ls} {E : Ev} (hI : MJ M A E) (hd : 76 ≤ d) {a ls : Int} (hla : plA A a = -1) {N : Nat} (hN2 : A.1 2 = (N : Int)) (k : Q (some (0, -1)) M) : ∀ (m q : Nat), q + m = N → Wp l g d 0 0 n m_X8_friendOf 15 [] [(2, 69), (0, a), (0, (-1)), (0, ls), (0, (q : Int)), (9, 0)] M Q := by
  obtain ⟨hR, hA, hW, hr, hX⟩ := id hI
  have w2 := hW.1
  have w5 := hW.2.1
  have w3 := hW.2.2.1
  have w32 := hW.2.2.2.1
  intro m
  induction m with
  | zero =>
    intro q hm
    refine wp_iload dX8_friendOf_15 rfl ?_
    refine wp_aload_n dX8_friendOf_17 rfl rfl ?_
    refine wp_get 69 rfl fl_RX8_88 rfl ⟨by omega, by omega⟩ dX8_friendOf_18 rfl (v := (A.1 2)) (hA.2.2.1) ?_
    refine wp_icmp_ge (tgt := 119) dX8_friendOf_21 (by decide) (fun _ => ?_) (fun h => absurd h (by omega))
    refine wp_iload_n dX8_friendOf_119 rfl rfl ?_
    refine wp_iret rfl dX8_friendOf_120 ?_
    exact k
  | succ m ih =>
    intro q hm
    refine wp_iload dX8_friendOf_15 rfl ?_
    refine wp_aload_n dX8_friendOf_17 rfl rfl ?_
    refine wp_get 69 rfl fl_RX8_88 rfl ⟨by omega, by omega⟩ dX8_friendOf_18 rfl (v := (A.1 2)) (hA.2.2.1) ?_
    refine wp_icmp_ge (tgt := 119) dX8_friendOf_21 (by decide) (fun h => absurd h (by omega)) (fun _ => ?_)
    refine wp_aload_n dX8_friendOf_24 rfl rfl ?_
    refine wp_iload_n dX8_friendOf_25 rfl rfl ?_
    refine wp_callV0 (d' := d - 1) cv_RX8_132 69 rfl [(0, a)] [] rfl rfl (Or.inl ⟨_, _, rfl, by decide, rfl, by omega, by omega⟩) (by omega) (Nat.le_of_ble_eq_true rfl) dX8_friendOf_26 rfl (Nat.le_of_ble_eq_true rfl) (by omega) (loc1 := [(2, 69), (0, a), (9, 0)]) rfl ?_
    refine sp_plm hn hI a ?_
    refine wp_iconst dX8_friendOf_29 (by decide) ?_
    refine wp_icmp_eq (tgt := 113) dX8_friendOf_30 (by decide) (fun _ => ?_) (fun h => absurd h (by omega))
    refine wp_iinc (loc' := [(2, 69), (0, a), (0, (-1)), (0, ls), (0, ((q : Int) + 1)), (9, 0)]) dX8_friendOf_113 rfl (by omega) rfl ?_
    refine wp_goto (tgt := 15) dX8_friendOf_116 (by decide) ?_
    exact ih (q + 1) (by omega)
set_option maxRecDepth 20000 in
set_option maxHeartbeats 4000000 in
theorem sp_frm {l : Launch} {g : Gw} {d n : Nat} {M : Mm} {Q : Option Wd → Mm → Prop} (hn : 90 ≤ n) {A : Ls} {E : Ev} (hI : MJ M A E) (hd : 80 ≤ d) (a : Int) (kN : plA A a = -1 → ∀ M', MJ M' A E → Fr VMp M M' → Q (some (0, -1)) M') (k : plA A a ≠ -1 → ∀ M', MJ M' A E → Fr VMp M M' → Q (some (0, whA E A a 5 0 (lsB E A a) (-1))) M') : Wp l g d 0 0 n m_X8_friendOf 0 [] [(2, 69), (0, a), (9, 0), (9, 0), (9, 0), (9, 0)] M Q := by
  obtain ⟨hR, hA, hW, hr, hX⟩ := id hI
  have w2 := hW.1
  have w5 := hW.2.1
  have w3 := hW.2.2.1
  have w32 := hW.2.2.2.1
  have hok := lnA_ok hW
  have hll := lnA_len A
  have hN3 : A.1 3 = ((lnA A).length : Int) := by omega
  obtain ⟨N2, hN2⟩ := Int.eq_ofNat_of_zero_le w2
  refine wp_aload_n dX8_friendOf_0 rfl rfl ?_
  refine wp_iload_n dX8_friendOf_1 rfl rfl ?_
  refine wp_callV0 (d' := d - 1) cv_RX8_416 69 rfl [(0, a)] [] rfl rfl (Or.inl ⟨_, _, rfl, by decide, rfl, by omega, by omega⟩) (by omega) (Nat.le_of_ble_eq_true rfl) dX8_friendOf_2 rfl (Nat.le_of_ble_eq_true rfl) (by omega) (loc1 := [(2, 69), (0, a), (9, 0), (9, 0)]) rfl ?_
  refine sp_lkm hn hI (by omega) a (fun M1 G1 a1 b1 F1 => ?_)
  have I1 := G1.1
  refine wp_iconst dX8_friendOf_5 (by decide) ?_
  refine wp_istore_n (loc' := [(2, 69), (0, a), (0, (-1)), (9, 0), (9, 0), (9, 0)]) dX8_friendOf_6 rfl (Nat.le_of_ble_eq_true rfl) rfl ?_
  refine wp_aload_n dX8_friendOf_7 rfl rfl ?_
  refine wp_get 69 rfl fl_RX8_410 rfl ⟨by omega, by omega⟩ dX8_friendOf_8 rfl (v := (M1 69 36)) (rfl) ?_
  refine wp_istore_n (loc' := [(2, 69), (0, a), (0, (-1)), (0, (M1 69 36)), (9, 0), (9, 0)]) dX8_friendOf_11 rfl (Nat.le_of_ble_eq_true rfl) rfl ?_
  refine wp_iconst dX8_friendOf_12 (by decide) ?_
  refine wp_istore (loc' := [(2, 69), (0, a), (0, (-1)), (0, (M1 69 36)), (0, 0), (9, 0)]) dX8_friendOf_13 (Nat.le_of_ble_eq_true rfl) rfl ?_
  by_cases hla : plA A a = -1
  · exact lp_fro hn I1 (by omega) hla hN2 (kN hla M1 I1 (F1.mono VMo.p)) N2 0 (by omega)
  · rw [show M1 69 36 = lsB E A a from a1.trans (congrArg Prod.fst (look_in G1 hla))]
    exact lp_frm hn (by omega) hla hN2 N2 0 (lsB E A a) (-1) _ M1 Q (by omega) I1 (fun M2 I2 F2 => k hla M2 I2 ((F1.mono VMo.p).tr F2))
set_option maxRecDepth 20000 in
set_option maxHeartbeats 4000000 in
theorem sp_ahm_0 {l : Launch} {g : Gw} {d n : Nat} {M : Mm} {Q : Option Wd → Mm → Prop} (hn : 90 ≤ n) {A : Ls} {E : Ev} (hI : MJ M A E) (hd : 84 ≤ d) (a : Int) (kB : ¬ (0 ≤ a ∧ a < A.1 2 ∧ (0 : Int) ≤ 0 ∧ (0 : Int) ≤ 2) → Q (some (0, -2)) M) (kN : (0 ≤ a ∧ a < A.1 2 ∧ (0 : Int) ≤ 0 ∧ (0 : Int) ≤ 2) → plA A a = -1 → ∀ M', MJ M' A E → Fr VMp M M' → Q (some (0, -1)) M') (k : (0 ≤ a ∧ a < A.1 2 ∧ (0 : Int) ≤ 0 ∧ (0 : Int) ≤ 2) → plA A a ≠ -1 → ∀ M', MJ M' A E → Fr VMp M M' → Q (some (0, ahdA E A a 0)) M') : Wp l g d 0 0 n m_X8_ahead 0 [] [(2, 69), (0, a), (0, 0)] M Q := by
  obtain ⟨hR, hA, hW, hr, hX⟩ := id hI
  have w2 := hW.1
  have w5 := hW.2.1
  have w3 := hW.2.2.1
  have w32 := hW.2.2.2.1
  refine wp_aload_n dX8_ahead_0 rfl rfl ?_
  refine wp_iload_n dX8_ahead_1 rfl rfl ?_
  refine wp_callV0 (d' := d - 1) cv_RX8_97 69 rfl [(0, a)] [] rfl rfl (Or.inl ⟨_, _, rfl, by decide, rfl, by omega, by omega⟩) (by omega) (Nat.le_of_ble_eq_true rfl) dX8_ahead_2 rfl (Nat.le_of_ble_eq_true rfl) (by omega) (loc1 := [(2, 69), (0, a)]) rfl ?_
  refine sp_isOne hn hI (by omega) a (fun o2 => ?_) (fun o2 => ?_)
  · refine wp_if_eq (tgt := 20) dX8_ahead_5 (by decide) (fun h => absurd h (by decide)) (fun _ => ?_)
    refine wp_iload_n dX8_ahead_8 rfl rfl ?_
    refine wp_i2l dX8_ahead_9 ?_
    refine wp_lconst (v := 0) dX8_ahead_10 (by decide) (by decide) ?_
    refine wp_ldc2 (x := 2) dX8_ahead_11 kl_RX8_419 (by decide) (wr_l (by omega)) ?_
    refine wp_callS0 (d' := d - 1) cs_RX8_91 [(1, 0), (1, 0), (1, 2)] [] rfl rfl (Nat.le_of_ble_eq_true rfl) dX8_ahead_14 rfl (Nat.le_of_ble_eq_true rfl) (by omega) (loc1 := [(1, 0), (9, 0), (1, 0), (9, 0), (1, 2), (9, 0)]) rfl ?_
    refine sp_in 0 0 2 (fun _ => ?_) (fun h => absurd (by decide) h)
    refine wp_if_ne (tgt := 23) dX8_ahead_17 (by decide) (fun _ => ?_) (fun h => absurd h (by decide))
    refine wp_iload_n dX8_ahead_23 rfl rfl ?_
    refine wp_iconst dX8_ahead_24 (by decide) ?_
    refine wp_icmp_ne (tgt := 34) dX8_ahead_25 (by decide) (fun _ => ?_) (fun h => absurd h (by decide))
    refine wp_aload_n dX8_ahead_34 rfl rfl ?_
    refine wp_iload_n dX8_ahead_35 rfl rfl ?_
    refine wp_callV0 (d' := d - 1) cv_RX8_416 69 rfl [(0, a)] [] rfl rfl (Or.inl ⟨_, _, rfl, by decide, rfl, by omega, by omega⟩) (by omega) (Nat.le_of_ble_eq_true rfl) dX8_ahead_36 rfl (Nat.le_of_ble_eq_true rfl) (by omega) (loc1 := [(2, 69), (0, a), (9, 0), (9, 0)]) rfl ?_
    refine sp_lkm hn hI (by omega) a (fun M1 G1 a1 b1 F1 => ?_)
    have I1 := G1.1
    refine wp_iload_n dX8_ahead_39 rfl rfl ?_
    refine wp_if_ne (tgt := 50) dX8_ahead_40 (by decide) (fun h => absurd h (by decide)) (fun _ => ?_)
    refine wp_aload_n dX8_ahead_43 rfl rfl ?_
    refine wp_get 69 rfl fl_RX8_410 rfl ⟨by omega, by omega⟩ dX8_ahead_44 rfl (v := (M1 69 36)) (rfl) ?_
    refine wp_goto (tgt := 54) dX8_ahead_47 (by decide) ?_
    refine wp_iret rfl dX8_ahead_54 ?_
    by_cases hla : plA A a = -1
    · rw [show (M1 69 36) = -1 from a1.trans (congrArg Prod.fst (look_out G1 hla).1)]
      exact kN (by omega) hla M1 I1 (F1.mono VMo.p)
    · rw [show (M1 69 36) = lsB E A a from a1.trans (congrArg Prod.fst (look_in G1 hla))]
      rw [ah_0] at k
      exact k (by omega) hla M1 I1 (F1.mono VMo.p)
  · refine wp_if_eq (tgt := 20) dX8_ahead_5 (by decide) (fun _ => ?_) (fun h => absurd h (by decide))
    refine wp_bipush dX8_ahead_20 (by decide) (by decide) ?_
    refine wp_iret rfl dX8_ahead_22 ?_
    exact kB (by omega)
set_option maxRecDepth 20000 in
set_option maxHeartbeats 4000000 in
theorem sp_ahm_1 {l : Launch} {g : Gw} {d n : Nat} {M : Mm} {Q : Option Wd → Mm → Prop} (hn : 90 ≤ n) {A : Ls} {E : Ev} (hI : MJ M A E) (hd : 84 ≤ d) (a : Int) (kB : ¬ (0 ≤ a ∧ a < A.1 2 ∧ (0 : Int) ≤ 1 ∧ (1 : Int) ≤ 2) → Q (some (0, -2)) M) (kN : (0 ≤ a ∧ a < A.1 2 ∧ (0 : Int) ≤ 1 ∧ (1 : Int) ≤ 2) → plA A a = -1 → ∀ M', MJ M' A E → Fr VMp M M' → Q (some (0, -1)) M') (k : (0 ≤ a ∧ a < A.1 2 ∧ (0 : Int) ≤ 1 ∧ (1 : Int) ≤ 2) → plA A a ≠ -1 → ∀ M', MJ M' A E → Fr VMp M M' → Q (some (0, ahdA E A a 1)) M') : Wp l g d 0 0 n m_X8_ahead 0 [] [(2, 69), (0, a), (0, 1)] M Q := by
  obtain ⟨hR, hA, hW, hr, hX⟩ := id hI
  have w2 := hW.1
  have w5 := hW.2.1
  have w3 := hW.2.2.1
  have w32 := hW.2.2.2.1
  refine wp_aload_n dX8_ahead_0 rfl rfl ?_
  refine wp_iload_n dX8_ahead_1 rfl rfl ?_
  refine wp_callV0 (d' := d - 1) cv_RX8_97 69 rfl [(0, a)] [] rfl rfl (Or.inl ⟨_, _, rfl, by decide, rfl, by omega, by omega⟩) (by omega) (Nat.le_of_ble_eq_true rfl) dX8_ahead_2 rfl (Nat.le_of_ble_eq_true rfl) (by omega) (loc1 := [(2, 69), (0, a)]) rfl ?_
  refine sp_isOne hn hI (by omega) a (fun o2 => ?_) (fun o2 => ?_)
  · refine wp_if_eq (tgt := 20) dX8_ahead_5 (by decide) (fun h => absurd h (by decide)) (fun _ => ?_)
    refine wp_iload_n dX8_ahead_8 rfl rfl ?_
    refine wp_i2l dX8_ahead_9 ?_
    refine wp_lconst (v := 0) dX8_ahead_10 (by decide) (by decide) ?_
    refine wp_ldc2 (x := 2) dX8_ahead_11 kl_RX8_419 (by decide) (wr_l (by omega)) ?_
    refine wp_callS0 (d' := d - 1) cs_RX8_91 [(1, 1), (1, 0), (1, 2)] [] rfl rfl (Nat.le_of_ble_eq_true rfl) dX8_ahead_14 rfl (Nat.le_of_ble_eq_true rfl) (by omega) (loc1 := [(1, 1), (9, 0), (1, 0), (9, 0), (1, 2), (9, 0)]) rfl ?_
    refine sp_in 1 0 2 (fun _ => ?_) (fun h => absurd (by decide) h)
    refine wp_if_ne (tgt := 23) dX8_ahead_17 (by decide) (fun _ => ?_) (fun h => absurd h (by decide))
    refine wp_iload_n dX8_ahead_23 rfl rfl ?_
    refine wp_iconst dX8_ahead_24 (by decide) ?_
    refine wp_icmp_ne (tgt := 34) dX8_ahead_25 (by decide) (fun _ => ?_) (fun h => absurd h (by decide))
    refine wp_aload_n dX8_ahead_34 rfl rfl ?_
    refine wp_iload_n dX8_ahead_35 rfl rfl ?_
    refine wp_callV0 (d' := d - 1) cv_RX8_416 69 rfl [(0, a)] [] rfl rfl (Or.inl ⟨_, _, rfl, by decide, rfl, by omega, by omega⟩) (by omega) (Nat.le_of_ble_eq_true rfl) dX8_ahead_36 rfl (Nat.le_of_ble_eq_true rfl) (by omega) (loc1 := [(2, 69), (0, a), (9, 0), (9, 0)]) rfl ?_
    refine sp_lkm hn hI (by omega) a (fun M1 G1 a1 b1 F1 => ?_)
    have I1 := G1.1
    refine wp_iload_n dX8_ahead_39 rfl rfl ?_
    refine wp_if_ne (tgt := 50) dX8_ahead_40 (by decide) (fun _ => ?_) (fun h => absurd h (by decide))
    refine wp_aload_n dX8_ahead_50 rfl rfl ?_
    refine wp_get 69 rfl fl_RX8_413 rfl ⟨by omega, by omega⟩ dX8_ahead_51 rfl (v := (M1 69 37)) (rfl) ?_
    refine wp_iret rfl dX8_ahead_54 ?_
    by_cases hla : plA A a = -1
    · rw [show (M1 69 37) = -1 from b1.trans (congrArg Prod.snd (look_out G1 hla).1)]
      exact kN (by omega) hla M1 I1 (F1.mono VMo.p)
    · rw [show (M1 69 37) = nerA E A a (lsB E A a) (flA E A).length 0 from b1.trans (congrArg Prod.snd (look_in G1 hla))]
      rw [ah_1] at k
      exact k (by omega) hla M1 I1 (F1.mono VMo.p)
  · refine wp_if_eq (tgt := 20) dX8_ahead_5 (by decide) (fun _ => ?_) (fun h => absurd h (by decide))
    refine wp_bipush dX8_ahead_20 (by decide) (by decide) ?_
    refine wp_iret rfl dX8_ahead_22 ?_
    exact kB (by omega)
set_option maxRecDepth 20000 in
set_option maxHeartbeats 4000000 in
theorem sp_ahm_2 {l : Launch} {g : Gw} {d n : Nat} {M : Mm} {Q : Option Wd → Mm → Prop} (hn : 90 ≤ n) {A : Ls} {E : Ev} (hI : MJ M A E) (hd : 84 ≤ d) (a : Int) (kB : ¬ (0 ≤ a ∧ a < A.1 2 ∧ (0 : Int) ≤ 2 ∧ (2 : Int) ≤ 2) → Q (some (0, -2)) M) (kN : (0 ≤ a ∧ a < A.1 2 ∧ (0 : Int) ≤ 2 ∧ (2 : Int) ≤ 2) → plA A a = -1 → ∀ M', MJ M' A E → Fr VMp M M' → Q (some (0, -1)) M') (k : (0 ≤ a ∧ a < A.1 2 ∧ (0 : Int) ≤ 2 ∧ (2 : Int) ≤ 2) → plA A a ≠ -1 → ∀ M', MJ M' A E → Fr VMp M M' → Q (some (0, ahdA E A a 2)) M') : Wp l g d 0 0 n m_X8_ahead 0 [] [(2, 69), (0, a), (0, 2)] M Q := by
  obtain ⟨hR, hA, hW, hr, hX⟩ := id hI
  have w2 := hW.1
  have w5 := hW.2.1
  have w3 := hW.2.2.1
  have w32 := hW.2.2.2.1
  refine wp_aload_n dX8_ahead_0 rfl rfl ?_
  refine wp_iload_n dX8_ahead_1 rfl rfl ?_
  refine wp_callV0 (d' := d - 1) cv_RX8_97 69 rfl [(0, a)] [] rfl rfl (Or.inl ⟨_, _, rfl, by decide, rfl, by omega, by omega⟩) (by omega) (Nat.le_of_ble_eq_true rfl) dX8_ahead_2 rfl (Nat.le_of_ble_eq_true rfl) (by omega) (loc1 := [(2, 69), (0, a)]) rfl ?_
  refine sp_isOne hn hI (by omega) a (fun o2 => ?_) (fun o2 => ?_)
  · refine wp_if_eq (tgt := 20) dX8_ahead_5 (by decide) (fun h => absurd h (by decide)) (fun _ => ?_)
    refine wp_iload_n dX8_ahead_8 rfl rfl ?_
    refine wp_i2l dX8_ahead_9 ?_
    refine wp_lconst (v := 0) dX8_ahead_10 (by decide) (by decide) ?_
    refine wp_ldc2 (x := 2) dX8_ahead_11 kl_RX8_419 (by decide) (wr_l (by omega)) ?_
    refine wp_callS0 (d' := d - 1) cs_RX8_91 [(1, 2), (1, 0), (1, 2)] [] rfl rfl (Nat.le_of_ble_eq_true rfl) dX8_ahead_14 rfl (Nat.le_of_ble_eq_true rfl) (by omega) (loc1 := [(1, 2), (9, 0), (1, 0), (9, 0), (1, 2), (9, 0)]) rfl ?_
    refine sp_in 2 0 2 (fun _ => ?_) (fun h => absurd (by decide) h)
    refine wp_if_ne (tgt := 23) dX8_ahead_17 (by decide) (fun _ => ?_) (fun h => absurd h (by decide))
    refine wp_iload_n dX8_ahead_23 rfl rfl ?_
    refine wp_iconst dX8_ahead_24 (by decide) ?_
    refine wp_icmp_ne (tgt := 34) dX8_ahead_25 (by decide) (fun h => absurd h (by decide)) (fun _ => ?_)
    refine wp_aload_n dX8_ahead_28 rfl rfl ?_
    refine wp_iload_n dX8_ahead_29 rfl rfl ?_
    refine wp_callV0 (d' := d - 1) cv_RX8_421 69 rfl [(0, a)] [] rfl rfl (Or.inl ⟨_, _, rfl, by decide, rfl, by omega, by omega⟩) (by omega) (Nat.le_of_ble_eq_true rfl) dX8_ahead_30 rfl (Nat.le_of_ble_eq_true rfl) (by omega) (loc1 := [(2, 69), (0, a), (9, 0), (9, 0), (9, 0), (9, 0)]) rfl ?_
    refine sp_frm hn hI (by omega) a (fun hla M1 I1 F1 => ?_) (fun hla M1 I1 F1 => ?_)
    · refine wp_iret rfl dX8_ahead_33 ?_
      exact kN (by omega) hla M1 I1 F1
    · refine wp_iret rfl dX8_ahead_33 ?_
      rw [ah_2] at k
      exact k (by omega) hla M1 I1 F1
  · refine wp_if_eq (tgt := 20) dX8_ahead_5 (by decide) (fun _ => ?_) (fun h => absurd h (by decide))
    refine wp_bipush dX8_ahead_20 (by decide) (by decide) ?_
    refine wp_iret rfl dX8_ahead_22 ?_
    exact kB (by omega)
set_option maxRecDepth 20000 in
set_option maxHeartbeats 4000000 in
theorem cm_ahead {l : Launch} {g : Gw} {d n : Nat} {M : Mm} {Q : Option Wd → Mm → Prop} (hn : 90 ≤ n) {A : Ls} {E : Ev} (hI : MJ M A E) (hd : 84 ≤ d) (a w : Int) (kB : ¬ (0 ≤ a ∧ a < A.1 2 ∧ 0 ≤ w ∧ w ≤ 2) → Q (some (0, -2)) M) (kN : (0 ≤ a ∧ a < A.1 2 ∧ 0 ≤ w ∧ w ≤ 2) → plA A a = -1 → ∀ M', MJ M' A E → Fr VMp M M' → Q (some (0, -1)) M') (k : (0 ≤ a ∧ a < A.1 2 ∧ 0 ≤ w ∧ w ≤ 2) → plA A a ≠ -1 → ∀ M', MJ M' A E → Fr VMp M M' → Q (some (0, ahdA E A a w)) M') : Wp l g d 0 0 n m_X8_ahead 0 [] [(2, 69), (0, a), (0, w)] M Q := by
  obtain ⟨hR, hA, hW, hr, hX⟩ := id hI
  have w2 := hW.1
  have w5 := hW.2.1
  have w3 := hW.2.2.1
  have w32 := hW.2.2.2.1
  by_cases hw : 0 ≤ w ∧ w ≤ 2
  · rcases (show w = 0 ∨ w = 1 ∨ w = 2 by omega) with rfl | rfl | rfl
    · exact sp_ahm_0 hn hI hd a kB kN k
    · exact sp_ahm_1 hn hI hd a kB kN k
    · exact sp_ahm_2 hn hI hd a kB kN k
  · refine wp_aload_n dX8_ahead_0 rfl rfl ?_
    refine wp_iload_n dX8_ahead_1 rfl rfl ?_
    refine wp_callV0 (d' := d - 1) cv_RX8_97 69 rfl [(0, a)] [] rfl rfl (Or.inl ⟨_, _, rfl, by decide, rfl, by omega, by omega⟩) (by omega) (Nat.le_of_ble_eq_true rfl) dX8_ahead_2 rfl (Nat.le_of_ble_eq_true rfl) (by omega) (loc1 := [(2, 69), (0, a)]) rfl ?_
    refine sp_isOne hn hI (by omega) a (fun o2 => ?_) (fun o2 => ?_)
    · refine wp_if_eq (tgt := 20) dX8_ahead_5 (by decide) (fun h => absurd h (by decide)) (fun _ => ?_)
      refine wp_iload_n dX8_ahead_8 rfl rfl ?_
      refine wp_i2l dX8_ahead_9 ?_
      refine wp_lconst (v := 0) dX8_ahead_10 (by decide) (by decide) ?_
      refine wp_ldc2 (x := 2) dX8_ahead_11 kl_RX8_419 (by decide) (wr_l (by omega)) ?_
      refine wp_callS0 (d' := d - 1) cs_RX8_91 [(1, w), (1, 0), (1, 2)] [] rfl rfl (Nat.le_of_ble_eq_true rfl) dX8_ahead_14 rfl (Nat.le_of_ble_eq_true rfl) (by omega) (loc1 := [(1, w), (9, 0), (1, 0), (9, 0), (1, 2), (9, 0)]) rfl ?_
      refine sp_in w 0 2 (fun h => absurd h hw) (fun _ => ?_)
      refine wp_if_ne (tgt := 23) dX8_ahead_17 (by decide) (fun h => absurd h (by decide)) (fun _ => ?_)
      refine wp_bipush dX8_ahead_20 (by decide) (by decide) ?_
      refine wp_iret rfl dX8_ahead_22 ?_
      exact kB (by omega)
    · refine wp_if_eq (tgt := 20) dX8_ahead_5 (by decide) (fun _ => ?_) (fun h => absurd h (by decide))
      refine wp_bipush dX8_ahead_20 (by decide) (by decide) ?_
      refine wp_iret rfl dX8_ahead_22 ?_
      exact kB (by omega)
