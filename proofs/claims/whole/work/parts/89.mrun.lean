/-! ===== the model: laid aside, laid back; thought minutes ===== -/
def VMw (i j : Nat) : Prop := i = 82 ∨ i = 83 ∨ (i = 69 ∧ (j = 40 ∨ j = 41))
theorem VMw.sr {M M' : Mm} (h : Fr VMw M M') (hR : SR M) : SR M' := hR.frL h (by unfold VMw; decide +kernel)
theorem VMw.n : ∀ i j, VMw i j → VMn i j := by
  intro i j h
  unfold VMw at h
  unfold VMn
  omega
/-- a land that was laid aside -/
def ASm (M : Mm) (A : Ls) : Prop := M 69 40 = A.1 3 ∧ M 69 41 = A.1 0 ∧ (∀ q : Nat, (q : Int) < A.1 3 → M 82 q = A.2 5 q) ∧ ∀ r i : Nat, r < 4 → (i : Int) < A.1 2 → M 83 (4 * i + r) = A.2 (r + 1) i
theorem ASm.fr {M M' : Mm} {A : Ls} {V : Nat → Nat → Prop} (h : ASm M A) (f : Fr V M M') (hv : ∀ i j, V i j → ¬ VMw i j) : ASm M' A := by
  have e : ∀ i j, VMw i j → M' i j = M i j := fun i j q => f i j (fun c => hv i j c q)
  exact ⟨(e _ _ (by unfold VMw; omega)).trans h.1, (e _ _ (by unfold VMw; omega)).trans h.2.1, fun q hq => (e _ _ (by unfold VMw; omega)).trans (h.2.2.1 q hq), fun r i hr hi => (e _ _ (by unfold VMw; omega)).trans (h.2.2.2 r i hr hi)⟩
theorem VMl.nw : ∀ i j, VMl i j → ¬ VMw i j := by
  intro i j h
  unfold VMl VMs at h
  unfold VMw
  omega
set_option maxRecDepth 20000 in
set_option maxHeartbeats 4000000 in
theorem sp_asd0 {l : Launch} {g : Gw} {d n : Nat} {M : Mm} {Q : Option Wd → Mm → Prop} (hn : 90 ≤ n) (hR : SR M) (k : ∀ M', Fr VMw M M' → (∀ j : Nat, j < 5 → M' 82 j = M 75 j) → (∀ j : Nat, j < 20 → M' 83 j = M 74 j) → M' 69 40 = M 69 12 → M' 69 41 = M 69 7 → Q none M') : Wp l g d 0 0 n m_X8_laysAside 0 [] [(2, 69), (9, 0)] M Q := by
  refine wp_iconst dX8_laysAside_0 (by decide) ?_
  refine wp_istore_n (loc' := [(2, 69), (0, 0)]) dX8_laysAside_1 rfl (Nat.le_of_ble_eq_true rfl) rfl ?_
  refine wp_iload_n dX8_laysAside_2 rfl rfl ?_
  refine wp_iconst dX8_laysAside_3 (by decide) ?_
  refine wp_icmp_ge (tgt := 25) dX8_laysAside_4 (by decide) (fun h => absurd h (by decide)) (fun _ => ?_)
  refine wp_aload_n dX8_laysAside_7 rfl rfl ?_
  refine wp_get 69 rfl fl_RX8_51 rfl ⟨by omega, by omega⟩ dX8_laysAside_8 rfl (v := 82) (sr_69_38 (M := M) hR) ?_
  refine wp_iload_n dX8_laysAside_11 rfl rfl ?_
  refine wp_aload_n dX8_laysAside_12 rfl rfl ?_
  refine wp_get 69 rfl fl_RX8_29 rfl ⟨by omega, by omega⟩ dX8_laysAside_13 rfl (v := 75) (sr_69_11 (M := M) hR) ?_
  refine wp_iload_n dX8_laysAside_16 rfl rfl ?_
  refine wp_iald 75 rfl rfl ⟨by omega, by omega⟩ ⟨by omega, by omega⟩ dX8_laysAside_17 (v := (M 75 0)) (rfl) ?_
  refine wp_iast 82 rfl rfl ⟨by omega, by omega⟩ ⟨by omega, by omega⟩ dX8_laysAside_18 (jn := 0) rfl ?_
  refine wp_iinc (loc' := [(2, 69), (0, 1)]) dX8_laysAside_19 rfl (by omega) rfl ?_
  refine wp_goto (tgt := 2) dX8_laysAside_22 (by decide) ?_
  refine wp_iload_n dX8_laysAside_2 rfl rfl ?_
  refine wp_iconst dX8_laysAside_3 (by decide) ?_
  refine wp_icmp_ge (tgt := 25) dX8_laysAside_4 (by decide) (fun h => absurd h (by decide)) (fun _ => ?_)
  refine wp_aload_n dX8_laysAside_7 rfl rfl ?_
  refine wp_get 69 rfl fl_RX8_51 rfl ⟨by omega, by omega⟩ dX8_laysAside_8 rfl (v := 82) (sr_69_38 (M := M) hR) ?_
  refine wp_iload_n dX8_laysAside_11 rfl rfl ?_
  refine wp_aload_n dX8_laysAside_12 rfl rfl ?_
  refine wp_get 69 rfl fl_RX8_29 rfl ⟨by omega, by omega⟩ dX8_laysAside_13 rfl (v := 75) (sr_69_11 (M := M) hR) ?_
  refine wp_iload_n dX8_laysAside_16 rfl rfl ?_
  refine wp_iald 75 rfl rfl ⟨by omega, by omega⟩ ⟨by omega, by omega⟩ dX8_laysAside_17 (v := (M 75 1)) (rfl) ?_
  refine wp_iast 82 rfl rfl ⟨by omega, by omega⟩ ⟨by omega, by omega⟩ dX8_laysAside_18 (jn := 1) rfl ?_
  refine wp_iinc (loc' := [(2, 69), (0, 2)]) dX8_laysAside_19 rfl (by omega) rfl ?_
  refine wp_goto (tgt := 2) dX8_laysAside_22 (by decide) ?_
  refine wp_iload_n dX8_laysAside_2 rfl rfl ?_
  refine wp_iconst dX8_laysAside_3 (by decide) ?_
  refine wp_icmp_ge (tgt := 25) dX8_laysAside_4 (by decide) (fun h => absurd h (by decide)) (fun _ => ?_)
  refine wp_aload_n dX8_laysAside_7 rfl rfl ?_
  refine wp_get 69 rfl fl_RX8_51 rfl ⟨by omega, by omega⟩ dX8_laysAside_8 rfl (v := 82) (sr_69_38 (M := M) hR) ?_
  refine wp_iload_n dX8_laysAside_11 rfl rfl ?_
  refine wp_aload_n dX8_laysAside_12 rfl rfl ?_
  refine wp_get 69 rfl fl_RX8_29 rfl ⟨by omega, by omega⟩ dX8_laysAside_13 rfl (v := 75) (sr_69_11 (M := M) hR) ?_
  refine wp_iload_n dX8_laysAside_16 rfl rfl ?_
  refine wp_iald 75 rfl rfl ⟨by omega, by omega⟩ ⟨by omega, by omega⟩ dX8_laysAside_17 (v := (M 75 2)) (rfl) ?_
  refine wp_iast 82 rfl rfl ⟨by omega, by omega⟩ ⟨by omega, by omega⟩ dX8_laysAside_18 (jn := 2) rfl ?_
  refine wp_iinc (loc' := [(2, 69), (0, 3)]) dX8_laysAside_19 rfl (by omega) rfl ?_
  refine wp_goto (tgt := 2) dX8_laysAside_22 (by decide) ?_
  refine wp_iload_n dX8_laysAside_2 rfl rfl ?_
  refine wp_iconst dX8_laysAside_3 (by decide) ?_
  refine wp_icmp_ge (tgt := 25) dX8_laysAside_4 (by decide) (fun h => absurd h (by decide)) (fun _ => ?_)
  refine wp_aload_n dX8_laysAside_7 rfl rfl ?_
  refine wp_get 69 rfl fl_RX8_51 rfl ⟨by omega, by omega⟩ dX8_laysAside_8 rfl (v := 82) (sr_69_38 (M := M) hR) ?_
  refine wp_iload_n dX8_laysAside_11 rfl rfl ?_
  refine wp_aload_n dX8_laysAside_12 rfl rfl ?_
  refine wp_get 69 rfl fl_RX8_29 rfl ⟨by omega, by omega⟩ dX8_laysAside_13 rfl (v := 75) (sr_69_11 (M := M) hR) ?_
  refine wp_iload_n dX8_laysAside_16 rfl rfl ?_
  refine wp_iald 75 rfl rfl ⟨by omega, by omega⟩ ⟨by omega, by omega⟩ dX8_laysAside_17 (v := (M 75 3)) (rfl) ?_
  refine wp_iast 82 rfl rfl ⟨by omega, by omega⟩ ⟨by omega, by omega⟩ dX8_laysAside_18 (jn := 3) rfl ?_
  refine wp_iinc (loc' := [(2, 69), (0, 4)]) dX8_laysAside_19 rfl (by omega) rfl ?_
  refine wp_goto (tgt := 2) dX8_laysAside_22 (by decide) ?_
  refine wp_iload_n dX8_laysAside_2 rfl rfl ?_
  refine wp_iconst dX8_laysAside_3 (by decide) ?_
  refine wp_icmp_ge (tgt := 25) dX8_laysAside_4 (by decide) (fun h => absurd h (by decide)) (fun _ => ?_)
  refine wp_aload_n dX8_laysAside_7 rfl rfl ?_
  refine wp_get 69 rfl fl_RX8_51 rfl ⟨by omega, by omega⟩ dX8_laysAside_8 rfl (v := 82) (sr_69_38 (M := M) hR) ?_
  refine wp_iload_n dX8_laysAside_11 rfl rfl ?_
  refine wp_aload_n dX8_laysAside_12 rfl rfl ?_
  refine wp_get 69 rfl fl_RX8_29 rfl ⟨by omega, by omega⟩ dX8_laysAside_13 rfl (v := 75) (sr_69_11 (M := M) hR) ?_
  refine wp_iload_n dX8_laysAside_16 rfl rfl ?_
  refine wp_iald 75 rfl rfl ⟨by omega, by omega⟩ ⟨by omega, by omega⟩ dX8_laysAside_17 (v := (M 75 4)) (rfl) ?_
  refine wp_iast 82 rfl rfl ⟨by omega, by omega⟩ ⟨by omega, by omega⟩ dX8_laysAside_18 (jn := 4) rfl ?_
  refine wp_iinc (loc' := [(2, 69), (0, 5)]) dX8_laysAside_19 rfl (by omega) rfl ?_
  refine wp_goto (tgt := 2) dX8_laysAside_22 (by decide) ?_
  refine wp_iload_n dX8_laysAside_2 rfl rfl ?_
  refine wp_iconst dX8_laysAside_3 (by decide) ?_
  refine wp_icmp_ge (tgt := 25) dX8_laysAside_4 (by decide) (fun _ => ?_) (fun h => absurd h (by decide))
  refine wp_iconst dX8_laysAside_25 (by decide) ?_
  refine wp_istore_n (loc' := [(2, 69), (0, 0)]) dX8_laysAside_26 rfl (Nat.le_of_ble_eq_true rfl) rfl ?_
  refine wp_iload_n dX8_laysAside_27 rfl rfl ?_
  refine wp_bipush dX8_laysAside_28 (by decide) (by decide) ?_
  refine wp_icmp_ge (tgt := 51) dX8_laysAside_30 (by decide) (fun h => absurd h (by decide)) (fun _ => ?_)
  refine wp_aload_n dX8_laysAside_33 rfl rfl ?_
  refine wp_get 69 rfl fl_RX8_54 rfl ⟨by omega, by omega⟩ dX8_laysAside_34 rfl (v := 83) (sr_69_39 (M := M) hR) ?_
  refine wp_iload_n dX8_laysAside_37 rfl rfl ?_
  refine wp_aload_n dX8_laysAside_38 rfl rfl ?_
  refine wp_get 69 rfl fl_RX8_26 rfl ⟨by omega, by omega⟩ dX8_laysAside_39 rfl (v := 74) (sr_69_9 (M := M) hR) ?_
  refine wp_iload_n dX8_laysAside_42 rfl rfl ?_
  refine wp_iald 74 rfl rfl ⟨by omega, by omega⟩ ⟨by omega, by omega⟩ dX8_laysAside_43 (v := (M 74 0)) (rfl) ?_
  refine wp_iast 83 rfl rfl ⟨by omega, by omega⟩ ⟨by omega, by omega⟩ dX8_laysAside_44 (jn := 0) rfl ?_
  refine wp_iinc (loc' := [(2, 69), (0, 1)]) dX8_laysAside_45 rfl (by omega) rfl ?_
  refine wp_goto (tgt := 27) dX8_laysAside_48 (by decide) ?_
  refine wp_iload_n dX8_laysAside_27 rfl rfl ?_
  refine wp_bipush dX8_laysAside_28 (by decide) (by decide) ?_
  refine wp_icmp_ge (tgt := 51) dX8_laysAside_30 (by decide) (fun h => absurd h (by decide)) (fun _ => ?_)
  refine wp_aload_n dX8_laysAside_33 rfl rfl ?_
  refine wp_get 69 rfl fl_RX8_54 rfl ⟨by omega, by omega⟩ dX8_laysAside_34 rfl (v := 83) (sr_69_39 (M := M) hR) ?_
  refine wp_iload_n dX8_laysAside_37 rfl rfl ?_
  refine wp_aload_n dX8_laysAside_38 rfl rfl ?_
  refine wp_get 69 rfl fl_RX8_26 rfl ⟨by omega, by omega⟩ dX8_laysAside_39 rfl (v := 74) (sr_69_9 (M := M) hR) ?_
  refine wp_iload_n dX8_laysAside_42 rfl rfl ?_
  refine wp_iald 74 rfl rfl ⟨by omega, by omega⟩ ⟨by omega, by omega⟩ dX8_laysAside_43 (v := (M 74 1)) (rfl) ?_
  refine wp_iast 83 rfl rfl ⟨by omega, by omega⟩ ⟨by omega, by omega⟩ dX8_laysAside_44 (jn := 1) rfl ?_
  refine wp_iinc (loc' := [(2, 69), (0, 2)]) dX8_laysAside_45 rfl (by omega) rfl ?_
  refine wp_goto (tgt := 27) dX8_laysAside_48 (by decide) ?_
  refine wp_iload_n dX8_laysAside_27 rfl rfl ?_
  refine wp_bipush dX8_laysAside_28 (by decide) (by decide) ?_
  refine wp_icmp_ge (tgt := 51) dX8_laysAside_30 (by decide) (fun h => absurd h (by decide)) (fun _ => ?_)
  refine wp_aload_n dX8_laysAside_33 rfl rfl ?_
  refine wp_get 69 rfl fl_RX8_54 rfl ⟨by omega, by omega⟩ dX8_laysAside_34 rfl (v := 83) (sr_69_39 (M := M) hR) ?_
  refine wp_iload_n dX8_laysAside_37 rfl rfl ?_
  refine wp_aload_n dX8_laysAside_38 rfl rfl ?_
  refine wp_get 69 rfl fl_RX8_26 rfl ⟨by omega, by omega⟩ dX8_laysAside_39 rfl (v := 74) (sr_69_9 (M := M) hR) ?_
  refine wp_iload_n dX8_laysAside_42 rfl rfl ?_
  refine wp_iald 74 rfl rfl ⟨by omega, by omega⟩ ⟨by omega, by omega⟩ dX8_laysAside_43 (v := (M 74 2)) (rfl) ?_
  refine wp_iast 83 rfl rfl ⟨by omega, by omega⟩ ⟨by omega, by omega⟩ dX8_laysAside_44 (jn := 2) rfl ?_
  refine wp_iinc (loc' := [(2, 69), (0, 3)]) dX8_laysAside_45 rfl (by omega) rfl ?_
  refine wp_goto (tgt := 27) dX8_laysAside_48 (by decide) ?_
  refine wp_iload_n dX8_laysAside_27 rfl rfl ?_
  refine wp_bipush dX8_laysAside_28 (by decide) (by decide) ?_
  refine wp_icmp_ge (tgt := 51) dX8_laysAside_30 (by decide) (fun h => absurd h (by decide)) (fun _ => ?_)
  refine wp_aload_n dX8_laysAside_33 rfl rfl ?_
  refine wp_get 69 rfl fl_RX8_54 rfl ⟨by omega, by omega⟩ dX8_laysAside_34 rfl (v := 83) (sr_69_39 (M := M) hR) ?_
  refine wp_iload_n dX8_laysAside_37 rfl rfl ?_
  refine wp_aload_n dX8_laysAside_38 rfl rfl ?_
  refine wp_get 69 rfl fl_RX8_26 rfl ⟨by omega, by omega⟩ dX8_laysAside_39 rfl (v := 74) (sr_69_9 (M := M) hR) ?_
  refine wp_iload_n dX8_laysAside_42 rfl rfl ?_
  refine wp_iald 74 rfl rfl ⟨by omega, by omega⟩ ⟨by omega, by omega⟩ dX8_laysAside_43 (v := (M 74 3)) (rfl) ?_
  refine wp_iast 83 rfl rfl ⟨by omega, by omega⟩ ⟨by omega, by omega⟩ dX8_laysAside_44 (jn := 3) rfl ?_
  refine wp_iinc (loc' := [(2, 69), (0, 4)]) dX8_laysAside_45 rfl (by omega) rfl ?_
  refine wp_goto (tgt := 27) dX8_laysAside_48 (by decide) ?_
  refine wp_iload_n dX8_laysAside_27 rfl rfl ?_
  refine wp_bipush dX8_laysAside_28 (by decide) (by decide) ?_
  refine wp_icmp_ge (tgt := 51) dX8_laysAside_30 (by decide) (fun h => absurd h (by decide)) (fun _ => ?_)
  refine wp_aload_n dX8_laysAside_33 rfl rfl ?_
  refine wp_get 69 rfl fl_RX8_54 rfl ⟨by omega, by omega⟩ dX8_laysAside_34 rfl (v := 83) (sr_69_39 (M := M) hR) ?_
  refine wp_iload_n dX8_laysAside_37 rfl rfl ?_
  refine wp_aload_n dX8_laysAside_38 rfl rfl ?_
  refine wp_get 69 rfl fl_RX8_26 rfl ⟨by omega, by omega⟩ dX8_laysAside_39 rfl (v := 74) (sr_69_9 (M := M) hR) ?_
  refine wp_iload_n dX8_laysAside_42 rfl rfl ?_
  refine wp_iald 74 rfl rfl ⟨by omega, by omega⟩ ⟨by omega, by omega⟩ dX8_laysAside_43 (v := (M 74 4)) (rfl) ?_
  refine wp_iast 83 rfl rfl ⟨by omega, by omega⟩ ⟨by omega, by omega⟩ dX8_laysAside_44 (jn := 4) rfl ?_
  refine wp_iinc (loc' := [(2, 69), (0, 5)]) dX8_laysAside_45 rfl (by omega) rfl ?_
  refine wp_goto (tgt := 27) dX8_laysAside_48 (by decide) ?_
  refine wp_iload_n dX8_laysAside_27 rfl rfl ?_
  refine wp_bipush dX8_laysAside_28 (by decide) (by decide) ?_
  refine wp_icmp_ge (tgt := 51) dX8_laysAside_30 (by decide) (fun h => absurd h (by decide)) (fun _ => ?_)
  refine wp_aload_n dX8_laysAside_33 rfl rfl ?_
  refine wp_get 69 rfl fl_RX8_54 rfl ⟨by omega, by omega⟩ dX8_laysAside_34 rfl (v := 83) (sr_69_39 (M := M) hR) ?_
  refine wp_iload_n dX8_laysAside_37 rfl rfl ?_
  refine wp_aload_n dX8_laysAside_38 rfl rfl ?_
  refine wp_get 69 rfl fl_RX8_26 rfl ⟨by omega, by omega⟩ dX8_laysAside_39 rfl (v := 74) (sr_69_9 (M := M) hR) ?_
  refine wp_iload_n dX8_laysAside_42 rfl rfl ?_
  refine wp_iald 74 rfl rfl ⟨by omega, by omega⟩ ⟨by omega, by omega⟩ dX8_laysAside_43 (v := (M 74 5)) (rfl) ?_
  refine wp_iast 83 rfl rfl ⟨by omega, by omega⟩ ⟨by omega, by omega⟩ dX8_laysAside_44 (jn := 5) rfl ?_
  refine wp_iinc (loc' := [(2, 69), (0, 6)]) dX8_laysAside_45 rfl (by omega) rfl ?_
  refine wp_goto (tgt := 27) dX8_laysAside_48 (by decide) ?_
  refine wp_iload_n dX8_laysAside_27 rfl rfl ?_
  refine wp_bipush dX8_laysAside_28 (by decide) (by decide) ?_
  refine wp_icmp_ge (tgt := 51) dX8_laysAside_30 (by decide) (fun h => absurd h (by decide)) (fun _ => ?_)
  refine wp_aload_n dX8_laysAside_33 rfl rfl ?_
  refine wp_get 69 rfl fl_RX8_54 rfl ⟨by omega, by omega⟩ dX8_laysAside_34 rfl (v := 83) (sr_69_39 (M := M) hR) ?_
  refine wp_iload_n dX8_laysAside_37 rfl rfl ?_
  refine wp_aload_n dX8_laysAside_38 rfl rfl ?_
  refine wp_get 69 rfl fl_RX8_26 rfl ⟨by omega, by omega⟩ dX8_laysAside_39 rfl (v := 74) (sr_69_9 (M := M) hR) ?_
  refine wp_iload_n dX8_laysAside_42 rfl rfl ?_
  refine wp_iald 74 rfl rfl ⟨by omega, by omega⟩ ⟨by omega, by omega⟩ dX8_laysAside_43 (v := (M 74 6)) (rfl) ?_
  refine wp_iast 83 rfl rfl ⟨by omega, by omega⟩ ⟨by omega, by omega⟩ dX8_laysAside_44 (jn := 6) rfl ?_
  refine wp_iinc (loc' := [(2, 69), (0, 7)]) dX8_laysAside_45 rfl (by omega) rfl ?_
  refine wp_goto (tgt := 27) dX8_laysAside_48 (by decide) ?_
  refine wp_iload_n dX8_laysAside_27 rfl rfl ?_
  refine wp_bipush dX8_laysAside_28 (by decide) (by decide) ?_
  refine wp_icmp_ge (tgt := 51) dX8_laysAside_30 (by decide) (fun h => absurd h (by decide)) (fun _ => ?_)
  refine wp_aload_n dX8_laysAside_33 rfl rfl ?_
  refine wp_get 69 rfl fl_RX8_54 rfl ⟨by omega, by omega⟩ dX8_laysAside_34 rfl (v := 83) (sr_69_39 (M := M) hR) ?_
  refine wp_iload_n dX8_laysAside_37 rfl rfl ?_
  refine wp_aload_n dX8_laysAside_38 rfl rfl ?_
  refine wp_get 69 rfl fl_RX8_26 rfl ⟨by omega, by omega⟩ dX8_laysAside_39 rfl (v := 74) (sr_69_9 (M := M) hR) ?_
  refine wp_iload_n dX8_laysAside_42 rfl rfl ?_
  refine wp_iald 74 rfl rfl ⟨by omega, by omega⟩ ⟨by omega, by omega⟩ dX8_laysAside_43 (v := (M 74 7)) (rfl) ?_
  refine wp_iast 83 rfl rfl ⟨by omega, by omega⟩ ⟨by omega, by omega⟩ dX8_laysAside_44 (jn := 7) rfl ?_
  refine wp_iinc (loc' := [(2, 69), (0, 8)]) dX8_laysAside_45 rfl (by omega) rfl ?_
  refine wp_goto (tgt := 27) dX8_laysAside_48 (by decide) ?_
  refine wp_iload_n dX8_laysAside_27 rfl rfl ?_
  refine wp_bipush dX8_laysAside_28 (by decide) (by decide) ?_
  refine wp_icmp_ge (tgt := 51) dX8_laysAside_30 (by decide) (fun h => absurd h (by decide)) (fun _ => ?_)
  refine wp_aload_n dX8_laysAside_33 rfl rfl ?_
  refine wp_get 69 rfl fl_RX8_54 rfl ⟨by omega, by omega⟩ dX8_laysAside_34 rfl (v := 83) (sr_69_39 (M := M) hR) ?_
  refine wp_iload_n dX8_laysAside_37 rfl rfl ?_
  refine wp_aload_n dX8_laysAside_38 rfl rfl ?_
  refine wp_get 69 rfl fl_RX8_26 rfl ⟨by omega, by omega⟩ dX8_laysAside_39 rfl (v := 74) (sr_69_9 (M := M) hR) ?_
  refine wp_iload_n dX8_laysAside_42 rfl rfl ?_
  refine wp_iald 74 rfl rfl ⟨by omega, by omega⟩ ⟨by omega, by omega⟩ dX8_laysAside_43 (v := (M 74 8)) (rfl) ?_
  refine wp_iast 83 rfl rfl ⟨by omega, by omega⟩ ⟨by omega, by omega⟩ dX8_laysAside_44 (jn := 8) rfl ?_
  refine wp_iinc (loc' := [(2, 69), (0, 9)]) dX8_laysAside_45 rfl (by omega) rfl ?_
  refine wp_goto (tgt := 27) dX8_laysAside_48 (by decide) ?_
  refine wp_iload_n dX8_laysAside_27 rfl rfl ?_
  refine wp_bipush dX8_laysAside_28 (by decide) (by decide) ?_
  refine wp_icmp_ge (tgt := 51) dX8_laysAside_30 (by decide) (fun h => absurd h (by decide)) (fun _ => ?_)
  refine wp_aload_n dX8_laysAside_33 rfl rfl ?_
  refine wp_get 69 rfl fl_RX8_54 rfl ⟨by omega, by omega⟩ dX8_laysAside_34 rfl (v := 83) (sr_69_39 (M := M) hR) ?_
  refine wp_iload_n dX8_laysAside_37 rfl rfl ?_
  refine wp_aload_n dX8_laysAside_38 rfl rfl ?_
  refine wp_get 69 rfl fl_RX8_26 rfl ⟨by omega, by omega⟩ dX8_laysAside_39 rfl (v := 74) (sr_69_9 (M := M) hR) ?_
  refine wp_iload_n dX8_laysAside_42 rfl rfl ?_
  refine wp_iald 74 rfl rfl ⟨by omega, by omega⟩ ⟨by omega, by omega⟩ dX8_laysAside_43 (v := (M 74 9)) (rfl) ?_
  refine wp_iast 83 rfl rfl ⟨by omega, by omega⟩ ⟨by omega, by omega⟩ dX8_laysAside_44 (jn := 9) rfl ?_
  refine wp_iinc (loc' := [(2, 69), (0, 10)]) dX8_laysAside_45 rfl (by omega) rfl ?_
  refine wp_goto (tgt := 27) dX8_laysAside_48 (by decide) ?_
  refine wp_iload_n dX8_laysAside_27 rfl rfl ?_
  refine wp_bipush dX8_laysAside_28 (by decide) (by decide) ?_
  refine wp_icmp_ge (tgt := 51) dX8_laysAside_30 (by decide) (fun h => absurd h (by decide)) (fun _ => ?_)
  refine wp_aload_n dX8_laysAside_33 rfl rfl ?_
  refine wp_get 69 rfl fl_RX8_54 rfl ⟨by omega, by omega⟩ dX8_laysAside_34 rfl (v := 83) (sr_69_39 (M := M) hR) ?_
  refine wp_iload_n dX8_laysAside_37 rfl rfl ?_
  refine wp_aload_n dX8_laysAside_38 rfl rfl ?_
  refine wp_get 69 rfl fl_RX8_26 rfl ⟨by omega, by omega⟩ dX8_laysAside_39 rfl (v := 74) (sr_69_9 (M := M) hR) ?_
  refine wp_iload_n dX8_laysAside_42 rfl rfl ?_
  refine wp_iald 74 rfl rfl ⟨by omega, by omega⟩ ⟨by omega, by omega⟩ dX8_laysAside_43 (v := (M 74 10)) (rfl) ?_
  refine wp_iast 83 rfl rfl ⟨by omega, by omega⟩ ⟨by omega, by omega⟩ dX8_laysAside_44 (jn := 10) rfl ?_
  refine wp_iinc (loc' := [(2, 69), (0, 11)]) dX8_laysAside_45 rfl (by omega) rfl ?_
  refine wp_goto (tgt := 27) dX8_laysAside_48 (by decide) ?_
  refine wp_iload_n dX8_laysAside_27 rfl rfl ?_
  refine wp_bipush dX8_laysAside_28 (by decide) (by decide) ?_
  refine wp_icmp_ge (tgt := 51) dX8_laysAside_30 (by decide) (fun h => absurd h (by decide)) (fun _ => ?_)
  refine wp_aload_n dX8_laysAside_33 rfl rfl ?_
  refine wp_get 69 rfl fl_RX8_54 rfl ⟨by omega, by omega⟩ dX8_laysAside_34 rfl (v := 83) (sr_69_39 (M := M) hR) ?_
  refine wp_iload_n dX8_laysAside_37 rfl rfl ?_
  refine wp_aload_n dX8_laysAside_38 rfl rfl ?_
  refine wp_get 69 rfl fl_RX8_26 rfl ⟨by omega, by omega⟩ dX8_laysAside_39 rfl (v := 74) (sr_69_9 (M := M) hR) ?_
  refine wp_iload_n dX8_laysAside_42 rfl rfl ?_
  refine wp_iald 74 rfl rfl ⟨by omega, by omega⟩ ⟨by omega, by omega⟩ dX8_laysAside_43 (v := (M 74 11)) (rfl) ?_
  refine wp_iast 83 rfl rfl ⟨by omega, by omega⟩ ⟨by omega, by omega⟩ dX8_laysAside_44 (jn := 11) rfl ?_
  refine wp_iinc (loc' := [(2, 69), (0, 12)]) dX8_laysAside_45 rfl (by omega) rfl ?_
  refine wp_goto (tgt := 27) dX8_laysAside_48 (by decide) ?_
  refine wp_iload_n dX8_laysAside_27 rfl rfl ?_
  refine wp_bipush dX8_laysAside_28 (by decide) (by decide) ?_
  refine wp_icmp_ge (tgt := 51) dX8_laysAside_30 (by decide) (fun h => absurd h (by decide)) (fun _ => ?_)
  refine wp_aload_n dX8_laysAside_33 rfl rfl ?_
  refine wp_get 69 rfl fl_RX8_54 rfl ⟨by omega, by omega⟩ dX8_laysAside_34 rfl (v := 83) (sr_69_39 (M := M) hR) ?_
  refine wp_iload_n dX8_laysAside_37 rfl rfl ?_
  refine wp_aload_n dX8_laysAside_38 rfl rfl ?_
  refine wp_get 69 rfl fl_RX8_26 rfl ⟨by omega, by omega⟩ dX8_laysAside_39 rfl (v := 74) (sr_69_9 (M := M) hR) ?_
  refine wp_iload_n dX8_laysAside_42 rfl rfl ?_
  refine wp_iald 74 rfl rfl ⟨by omega, by omega⟩ ⟨by omega, by omega⟩ dX8_laysAside_43 (v := (M 74 12)) (rfl) ?_
  refine wp_iast 83 rfl rfl ⟨by omega, by omega⟩ ⟨by omega, by omega⟩ dX8_laysAside_44 (jn := 12) rfl ?_
  refine wp_iinc (loc' := [(2, 69), (0, 13)]) dX8_laysAside_45 rfl (by omega) rfl ?_
  refine wp_goto (tgt := 27) dX8_laysAside_48 (by decide) ?_
  refine wp_iload_n dX8_laysAside_27 rfl rfl ?_
  refine wp_bipush dX8_laysAside_28 (by decide) (by decide) ?_
  refine wp_icmp_ge (tgt := 51) dX8_laysAside_30 (by decide) (fun h => absurd h (by decide)) (fun _ => ?_)
  refine wp_aload_n dX8_laysAside_33 rfl rfl ?_
  refine wp_get 69 rfl fl_RX8_54 rfl ⟨by omega, by omega⟩ dX8_laysAside_34 rfl (v := 83) (sr_69_39 (M := M) hR) ?_
  refine wp_iload_n dX8_laysAside_37 rfl rfl ?_
  refine wp_aload_n dX8_laysAside_38 rfl rfl ?_
  refine wp_get 69 rfl fl_RX8_26 rfl ⟨by omega, by omega⟩ dX8_laysAside_39 rfl (v := 74) (sr_69_9 (M := M) hR) ?_
  refine wp_iload_n dX8_laysAside_42 rfl rfl ?_
  refine wp_iald 74 rfl rfl ⟨by omega, by omega⟩ ⟨by omega, by omega⟩ dX8_laysAside_43 (v := (M 74 13)) (rfl) ?_
  refine wp_iast 83 rfl rfl ⟨by omega, by omega⟩ ⟨by omega, by omega⟩ dX8_laysAside_44 (jn := 13) rfl ?_
  refine wp_iinc (loc' := [(2, 69), (0, 14)]) dX8_laysAside_45 rfl (by omega) rfl ?_
  refine wp_goto (tgt := 27) dX8_laysAside_48 (by decide) ?_
  refine wp_iload_n dX8_laysAside_27 rfl rfl ?_
  refine wp_bipush dX8_laysAside_28 (by decide) (by decide) ?_
  refine wp_icmp_ge (tgt := 51) dX8_laysAside_30 (by decide) (fun h => absurd h (by decide)) (fun _ => ?_)
  refine wp_aload_n dX8_laysAside_33 rfl rfl ?_
  refine wp_get 69 rfl fl_RX8_54 rfl ⟨by omega, by omega⟩ dX8_laysAside_34 rfl (v := 83) (sr_69_39 (M := M) hR) ?_
  refine wp_iload_n dX8_laysAside_37 rfl rfl ?_
  refine wp_aload_n dX8_laysAside_38 rfl rfl ?_
  refine wp_get 69 rfl fl_RX8_26 rfl ⟨by omega, by omega⟩ dX8_laysAside_39 rfl (v := 74) (sr_69_9 (M := M) hR) ?_
  refine wp_iload_n dX8_laysAside_42 rfl rfl ?_
  refine wp_iald 74 rfl rfl ⟨by omega, by omega⟩ ⟨by omega, by omega⟩ dX8_laysAside_43 (v := (M 74 14)) (rfl) ?_
  refine wp_iast 83 rfl rfl ⟨by omega, by omega⟩ ⟨by omega, by omega⟩ dX8_laysAside_44 (jn := 14) rfl ?_
  refine wp_iinc (loc' := [(2, 69), (0, 15)]) dX8_laysAside_45 rfl (by omega) rfl ?_
  refine wp_goto (tgt := 27) dX8_laysAside_48 (by decide) ?_
  refine wp_iload_n dX8_laysAside_27 rfl rfl ?_
  refine wp_bipush dX8_laysAside_28 (by decide) (by decide) ?_
  refine wp_icmp_ge (tgt := 51) dX8_laysAside_30 (by decide) (fun h => absurd h (by decide)) (fun _ => ?_)
  refine wp_aload_n dX8_laysAside_33 rfl rfl ?_
  refine wp_get 69 rfl fl_RX8_54 rfl ⟨by omega, by omega⟩ dX8_laysAside_34 rfl (v := 83) (sr_69_39 (M := M) hR) ?_
  refine wp_iload_n dX8_laysAside_37 rfl rfl ?_
  refine wp_aload_n dX8_laysAside_38 rfl rfl ?_
  refine wp_get 69 rfl fl_RX8_26 rfl ⟨by omega, by omega⟩ dX8_laysAside_39 rfl (v := 74) (sr_69_9 (M := M) hR) ?_
  refine wp_iload_n dX8_laysAside_42 rfl rfl ?_
  refine wp_iald 74 rfl rfl ⟨by omega, by omega⟩ ⟨by omega, by omega⟩ dX8_laysAside_43 (v := (M 74 15)) (rfl) ?_
  refine wp_iast 83 rfl rfl ⟨by omega, by omega⟩ ⟨by omega, by omega⟩ dX8_laysAside_44 (jn := 15) rfl ?_
  refine wp_iinc (loc' := [(2, 69), (0, 16)]) dX8_laysAside_45 rfl (by omega) rfl ?_
  refine wp_goto (tgt := 27) dX8_laysAside_48 (by decide) ?_
  refine wp_iload_n dX8_laysAside_27 rfl rfl ?_
  refine wp_bipush dX8_laysAside_28 (by decide) (by decide) ?_
  refine wp_icmp_ge (tgt := 51) dX8_laysAside_30 (by decide) (fun h => absurd h (by decide)) (fun _ => ?_)
  refine wp_aload_n dX8_laysAside_33 rfl rfl ?_
  refine wp_get 69 rfl fl_RX8_54 rfl ⟨by omega, by omega⟩ dX8_laysAside_34 rfl (v := 83) (sr_69_39 (M := M) hR) ?_
  refine wp_iload_n dX8_laysAside_37 rfl rfl ?_
  refine wp_aload_n dX8_laysAside_38 rfl rfl ?_
  refine wp_get 69 rfl fl_RX8_26 rfl ⟨by omega, by omega⟩ dX8_laysAside_39 rfl (v := 74) (sr_69_9 (M := M) hR) ?_
  refine wp_iload_n dX8_laysAside_42 rfl rfl ?_
  refine wp_iald 74 rfl rfl ⟨by omega, by omega⟩ ⟨by omega, by omega⟩ dX8_laysAside_43 (v := (M 74 16)) (rfl) ?_
  refine wp_iast 83 rfl rfl ⟨by omega, by omega⟩ ⟨by omega, by omega⟩ dX8_laysAside_44 (jn := 16) rfl ?_
  refine wp_iinc (loc' := [(2, 69), (0, 17)]) dX8_laysAside_45 rfl (by omega) rfl ?_
  refine wp_goto (tgt := 27) dX8_laysAside_48 (by decide) ?_
  refine wp_iload_n dX8_laysAside_27 rfl rfl ?_
  refine wp_bipush dX8_laysAside_28 (by decide) (by decide) ?_
  refine wp_icmp_ge (tgt := 51) dX8_laysAside_30 (by decide) (fun h => absurd h (by decide)) (fun _ => ?_)
  refine wp_aload_n dX8_laysAside_33 rfl rfl ?_
  refine wp_get 69 rfl fl_RX8_54 rfl ⟨by omega, by omega⟩ dX8_laysAside_34 rfl (v := 83) (sr_69_39 (M := M) hR) ?_
  refine wp_iload_n dX8_laysAside_37 rfl rfl ?_
  refine wp_aload_n dX8_laysAside_38 rfl rfl ?_
  refine wp_get 69 rfl fl_RX8_26 rfl ⟨by omega, by omega⟩ dX8_laysAside_39 rfl (v := 74) (sr_69_9 (M := M) hR) ?_
  refine wp_iload_n dX8_laysAside_42 rfl rfl ?_
  refine wp_iald 74 rfl rfl ⟨by omega, by omega⟩ ⟨by omega, by omega⟩ dX8_laysAside_43 (v := (M 74 17)) (rfl) ?_
  refine wp_iast 83 rfl rfl ⟨by omega, by omega⟩ ⟨by omega, by omega⟩ dX8_laysAside_44 (jn := 17) rfl ?_
  refine wp_iinc (loc' := [(2, 69), (0, 18)]) dX8_laysAside_45 rfl (by omega) rfl ?_
  refine wp_goto (tgt := 27) dX8_laysAside_48 (by decide) ?_
  refine wp_iload_n dX8_laysAside_27 rfl rfl ?_
  refine wp_bipush dX8_laysAside_28 (by decide) (by decide) ?_
  refine wp_icmp_ge (tgt := 51) dX8_laysAside_30 (by decide) (fun h => absurd h (by decide)) (fun _ => ?_)
  refine wp_aload_n dX8_laysAside_33 rfl rfl ?_
  refine wp_get 69 rfl fl_RX8_54 rfl ⟨by omega, by omega⟩ dX8_laysAside_34 rfl (v := 83) (sr_69_39 (M := M) hR) ?_
  refine wp_iload_n dX8_laysAside_37 rfl rfl ?_
  refine wp_aload_n dX8_laysAside_38 rfl rfl ?_
  refine wp_get 69 rfl fl_RX8_26 rfl ⟨by omega, by omega⟩ dX8_laysAside_39 rfl (v := 74) (sr_69_9 (M := M) hR) ?_
  refine wp_iload_n dX8_laysAside_42 rfl rfl ?_
  refine wp_iald 74 rfl rfl ⟨by omega, by omega⟩ ⟨by omega, by omega⟩ dX8_laysAside_43 (v := (M 74 18)) (rfl) ?_
  refine wp_iast 83 rfl rfl ⟨by omega, by omega⟩ ⟨by omega, by omega⟩ dX8_laysAside_44 (jn := 18) rfl ?_
  refine wp_iinc (loc' := [(2, 69), (0, 19)]) dX8_laysAside_45 rfl (by omega) rfl ?_
  refine wp_goto (tgt := 27) dX8_laysAside_48 (by decide) ?_
  refine wp_iload_n dX8_laysAside_27 rfl rfl ?_
  refine wp_bipush dX8_laysAside_28 (by decide) (by decide) ?_
  refine wp_icmp_ge (tgt := 51) dX8_laysAside_30 (by decide) (fun h => absurd h (by decide)) (fun _ => ?_)
  refine wp_aload_n dX8_laysAside_33 rfl rfl ?_
  refine wp_get 69 rfl fl_RX8_54 rfl ⟨by omega, by omega⟩ dX8_laysAside_34 rfl (v := 83) (sr_69_39 (M := M) hR) ?_
  refine wp_iload_n dX8_laysAside_37 rfl rfl ?_
  refine wp_aload_n dX8_laysAside_38 rfl rfl ?_
  refine wp_get 69 rfl fl_RX8_26 rfl ⟨by omega, by omega⟩ dX8_laysAside_39 rfl (v := 74) (sr_69_9 (M := M) hR) ?_
  refine wp_iload_n dX8_laysAside_42 rfl rfl ?_
  refine wp_iald 74 rfl rfl ⟨by omega, by omega⟩ ⟨by omega, by omega⟩ dX8_laysAside_43 (v := (M 74 19)) (rfl) ?_
  refine wp_iast 83 rfl rfl ⟨by omega, by omega⟩ ⟨by omega, by omega⟩ dX8_laysAside_44 (jn := 19) rfl ?_
  refine wp_iinc (loc' := [(2, 69), (0, 20)]) dX8_laysAside_45 rfl (by omega) rfl ?_
  refine wp_goto (tgt := 27) dX8_laysAside_48 (by decide) ?_
  refine wp_iload_n dX8_laysAside_27 rfl rfl ?_
  refine wp_bipush dX8_laysAside_28 (by decide) (by decide) ?_
  refine wp_icmp_ge (tgt := 51) dX8_laysAside_30 (by decide) (fun _ => ?_) (fun h => absurd h (by decide))
  refine wp_aload_n dX8_laysAside_51 rfl rfl ?_
  refine wp_aload_n dX8_laysAside_52 rfl rfl ?_
  refine wp_get 69 rfl fl_RX8_123 rfl ⟨by omega, by omega⟩ dX8_laysAside_53 rfl (v := (M 69 12)) (rfl) ?_
  refine wp_puti 69 rfl fl_RX8_424 rfl ⟨by omega, by omega⟩ dX8_laysAside_56 rfl rfl ?_
  refine wp_aload_n dX8_laysAside_59 rfl rfl ?_
  refine wp_aload_n dX8_laysAside_60 rfl rfl ?_
  refine wp_get 69 rfl fl_RX8_113 rfl ⟨by omega, by omega⟩ dX8_laysAside_61 rfl (v := (M 69 7)) (rfl) ?_
  refine wp_puti 69 rfl fl_RX8_427 rfl ⟨by omega, by omega⟩ dX8_laysAside_64 rfl rfl ?_
  refine wp_vret rfl dX8_laysAside_67 ?_
  refine k _ ((((((((((((((((((((((((((((Fr.rf : Fr VMw M M).put (by unfold VMw; omega)).put (by unfold VMw; omega)).put (by unfold VMw; omega)).put (by unfold VMw; omega)).put (by unfold VMw; omega)).put (by unfold VMw; omega)).put (by unfold VMw; omega)).put (by unfold VMw; omega)).put (by unfold VMw; omega)).put (by unfold VMw; omega)).put (by unfold VMw; omega)).put (by unfold VMw; omega)).put (by unfold VMw; omega)).put (by unfold VMw; omega)).put (by unfold VMw; omega)).put (by unfold VMw; omega)).put (by unfold VMw; omega)).put (by unfold VMw; omega)).put (by unfold VMw; omega)).put (by unfold VMw; omega)).put (by unfold VMw; omega)).put (by unfold VMw; omega)).put (by unfold VMw; omega)).put (by unfold VMw; omega)).put (by unfold VMw; omega)).put (by unfold VMw; omega)).put (by unfold VMw; omega)) ?_ ?_ rfl rfl
  · intro j hj
    rcases (show j = 0 ∨ j = 1 ∨ j = 2 ∨ j = 3 ∨ j = 4 by omega) with rfl | rfl | rfl | rfl | rfl
    · rfl
    · rfl
    · rfl
    · rfl
    · rfl
  · intro j hj
    rcases (show j = 0 ∨ j = 1 ∨ j = 2 ∨ j = 3 ∨ j = 4 ∨ j = 5 ∨ j = 6 ∨ j = 7 ∨ j = 8 ∨ j = 9 ∨ j = 10 ∨ j = 11 ∨ j = 12 ∨ j = 13 ∨ j = 14 ∨ j = 15 ∨ j = 16 ∨ j = 17 ∨ j = 18 ∨ j = 19 by omega) with rfl | rfl | rfl | rfl | rfl | rfl | rfl | rfl | rfl | rfl | rfl | rfl | rfl | rfl | rfl | rfl | rfl | rfl | rfl | rfl
    · rfl
    · rfl
    · rfl
    · rfl
    · rfl
    · rfl
    · rfl
    · rfl
    · rfl
    · rfl
    · rfl
    · rfl
    · rfl
    · rfl
    · rfl
    · rfl
    · rfl
    · rfl
    · rfl
    · rfl
def VMb (i j : Nat) : Prop := i = 74 ∨ i = 75 ∨ (i = 69 ∧ (j = 7 ∨ j = 12))
set_option maxRecDepth 20000 in
set_option maxHeartbeats 4000000 in
theorem sp_bck0 {l : Launch} {g : Gw} {d n : Nat} {M : Mm} {Q : Option Wd → Mm → Prop} (hn : 90 ≤ n) (hR : SR M) (k : ∀ M', Fr VMb M M' → (∀ j : Nat, j < 5 → M' 75 j = M 82 j) → (∀ j : Nat, j < 20 → M' 74 j = M 83 j) → M' 69 12 = M 69 40 → M' 69 7 = M 69 41 → Q none M') : Wp l g d 0 0 n m_X8_laysBack 0 [] [(2, 69), (9, 0)] M Q := by
  refine wp_iconst dX8_laysBack_0 (by decide) ?_
  refine wp_istore_n (loc' := [(2, 69), (0, 0)]) dX8_laysBack_1 rfl (Nat.le_of_ble_eq_true rfl) rfl ?_
  refine wp_iload_n dX8_laysBack_2 rfl rfl ?_
  refine wp_iconst dX8_laysBack_3 (by decide) ?_
  refine wp_icmp_ge (tgt := 25) dX8_laysBack_4 (by decide) (fun h => absurd h (by decide)) (fun _ => ?_)
  refine wp_aload_n dX8_laysBack_7 rfl rfl ?_
  refine wp_get 69 rfl fl_RX8_29 rfl ⟨by omega, by omega⟩ dX8_laysBack_8 rfl (v := 75) (sr_69_11 (M := M) hR) ?_
  refine wp_iload_n dX8_laysBack_11 rfl rfl ?_
  refine wp_aload_n dX8_laysBack_12 rfl rfl ?_
  refine wp_get 69 rfl fl_RX8_51 rfl ⟨by omega, by omega⟩ dX8_laysBack_13 rfl (v := 82) (sr_69_38 (M := M) hR) ?_
  refine wp_iload_n dX8_laysBack_16 rfl rfl ?_
  refine wp_iald 82 rfl rfl ⟨by omega, by omega⟩ ⟨by omega, by omega⟩ dX8_laysBack_17 (v := (M 82 0)) (rfl) ?_
  refine wp_iast 75 rfl rfl ⟨by omega, by omega⟩ ⟨by omega, by omega⟩ dX8_laysBack_18 (jn := 0) rfl ?_
  refine wp_iinc (loc' := [(2, 69), (0, 1)]) dX8_laysBack_19 rfl (by omega) rfl ?_
  refine wp_goto (tgt := 2) dX8_laysBack_22 (by decide) ?_
  refine wp_iload_n dX8_laysBack_2 rfl rfl ?_
  refine wp_iconst dX8_laysBack_3 (by decide) ?_
  refine wp_icmp_ge (tgt := 25) dX8_laysBack_4 (by decide) (fun h => absurd h (by decide)) (fun _ => ?_)
  refine wp_aload_n dX8_laysBack_7 rfl rfl ?_
  refine wp_get 69 rfl fl_RX8_29 rfl ⟨by omega, by omega⟩ dX8_laysBack_8 rfl (v := 75) (sr_69_11 (M := M) hR) ?_
  refine wp_iload_n dX8_laysBack_11 rfl rfl ?_
  refine wp_aload_n dX8_laysBack_12 rfl rfl ?_
  refine wp_get 69 rfl fl_RX8_51 rfl ⟨by omega, by omega⟩ dX8_laysBack_13 rfl (v := 82) (sr_69_38 (M := M) hR) ?_
  refine wp_iload_n dX8_laysBack_16 rfl rfl ?_
  refine wp_iald 82 rfl rfl ⟨by omega, by omega⟩ ⟨by omega, by omega⟩ dX8_laysBack_17 (v := (M 82 1)) (rfl) ?_
  refine wp_iast 75 rfl rfl ⟨by omega, by omega⟩ ⟨by omega, by omega⟩ dX8_laysBack_18 (jn := 1) rfl ?_
  refine wp_iinc (loc' := [(2, 69), (0, 2)]) dX8_laysBack_19 rfl (by omega) rfl ?_
  refine wp_goto (tgt := 2) dX8_laysBack_22 (by decide) ?_
  refine wp_iload_n dX8_laysBack_2 rfl rfl ?_
  refine wp_iconst dX8_laysBack_3 (by decide) ?_
  refine wp_icmp_ge (tgt := 25) dX8_laysBack_4 (by decide) (fun h => absurd h (by decide)) (fun _ => ?_)
  refine wp_aload_n dX8_laysBack_7 rfl rfl ?_
  refine wp_get 69 rfl fl_RX8_29 rfl ⟨by omega, by omega⟩ dX8_laysBack_8 rfl (v := 75) (sr_69_11 (M := M) hR) ?_
  refine wp_iload_n dX8_laysBack_11 rfl rfl ?_
  refine wp_aload_n dX8_laysBack_12 rfl rfl ?_
  refine wp_get 69 rfl fl_RX8_51 rfl ⟨by omega, by omega⟩ dX8_laysBack_13 rfl (v := 82) (sr_69_38 (M := M) hR) ?_
  refine wp_iload_n dX8_laysBack_16 rfl rfl ?_
  refine wp_iald 82 rfl rfl ⟨by omega, by omega⟩ ⟨by omega, by omega⟩ dX8_laysBack_17 (v := (M 82 2)) (rfl) ?_
  refine wp_iast 75 rfl rfl ⟨by omega, by omega⟩ ⟨by omega, by omega⟩ dX8_laysBack_18 (jn := 2) rfl ?_
  refine wp_iinc (loc' := [(2, 69), (0, 3)]) dX8_laysBack_19 rfl (by omega) rfl ?_
  refine wp_goto (tgt := 2) dX8_laysBack_22 (by decide) ?_
  refine wp_iload_n dX8_laysBack_2 rfl rfl ?_
  refine wp_iconst dX8_laysBack_3 (by decide) ?_
  refine wp_icmp_ge (tgt := 25) dX8_laysBack_4 (by decide) (fun h => absurd h (by decide)) (fun _ => ?_)
  refine wp_aload_n dX8_laysBack_7 rfl rfl ?_
  refine wp_get 69 rfl fl_RX8_29 rfl ⟨by omega, by omega⟩ dX8_laysBack_8 rfl (v := 75) (sr_69_11 (M := M) hR) ?_
  refine wp_iload_n dX8_laysBack_11 rfl rfl ?_
  refine wp_aload_n dX8_laysBack_12 rfl rfl ?_
  refine wp_get 69 rfl fl_RX8_51 rfl ⟨by omega, by omega⟩ dX8_laysBack_13 rfl (v := 82) (sr_69_38 (M := M) hR) ?_
  refine wp_iload_n dX8_laysBack_16 rfl rfl ?_
  refine wp_iald 82 rfl rfl ⟨by omega, by omega⟩ ⟨by omega, by omega⟩ dX8_laysBack_17 (v := (M 82 3)) (rfl) ?_
  refine wp_iast 75 rfl rfl ⟨by omega, by omega⟩ ⟨by omega, by omega⟩ dX8_laysBack_18 (jn := 3) rfl ?_
  refine wp_iinc (loc' := [(2, 69), (0, 4)]) dX8_laysBack_19 rfl (by omega) rfl ?_
  refine wp_goto (tgt := 2) dX8_laysBack_22 (by decide) ?_
  refine wp_iload_n dX8_laysBack_2 rfl rfl ?_
  refine wp_iconst dX8_laysBack_3 (by decide) ?_
  refine wp_icmp_ge (tgt := 25) dX8_laysBack_4 (by decide) (fun h => absurd h (by decide)) (fun _ => ?_)
  refine wp_aload_n dX8_laysBack_7 rfl rfl ?_
  refine wp_get 69 rfl fl_RX8_29 rfl ⟨by omega, by omega⟩ dX8_laysBack_8 rfl (v := 75) (sr_69_11 (M := M) hR) ?_
  refine wp_iload_n dX8_laysBack_11 rfl rfl ?_
  refine wp_aload_n dX8_laysBack_12 rfl rfl ?_
  refine wp_get 69 rfl fl_RX8_51 rfl ⟨by omega, by omega⟩ dX8_laysBack_13 rfl (v := 82) (sr_69_38 (M := M) hR) ?_
  refine wp_iload_n dX8_laysBack_16 rfl rfl ?_
  refine wp_iald 82 rfl rfl ⟨by omega, by omega⟩ ⟨by omega, by omega⟩ dX8_laysBack_17 (v := (M 82 4)) (rfl) ?_
  refine wp_iast 75 rfl rfl ⟨by omega, by omega⟩ ⟨by omega, by omega⟩ dX8_laysBack_18 (jn := 4) rfl ?_
  refine wp_iinc (loc' := [(2, 69), (0, 5)]) dX8_laysBack_19 rfl (by omega) rfl ?_
  refine wp_goto (tgt := 2) dX8_laysBack_22 (by decide) ?_
  refine wp_iload_n dX8_laysBack_2 rfl rfl ?_
  refine wp_iconst dX8_laysBack_3 (by decide) ?_
  refine wp_icmp_ge (tgt := 25) dX8_laysBack_4 (by decide) (fun _ => ?_) (fun h => absurd h (by decide))
  refine wp_iconst dX8_laysBack_25 (by decide) ?_
  refine wp_istore_n (loc' := [(2, 69), (0, 0)]) dX8_laysBack_26 rfl (Nat.le_of_ble_eq_true rfl) rfl ?_
  refine wp_iload_n dX8_laysBack_27 rfl rfl ?_
  refine wp_bipush dX8_laysBack_28 (by decide) (by decide) ?_
  refine wp_icmp_ge (tgt := 51) dX8_laysBack_30 (by decide) (fun h => absurd h (by decide)) (fun _ => ?_)
  refine wp_aload_n dX8_laysBack_33 rfl rfl ?_
  refine wp_get 69 rfl fl_RX8_26 rfl ⟨by omega, by omega⟩ dX8_laysBack_34 rfl (v := 74) (sr_69_9 (M := M) hR) ?_
  refine wp_iload_n dX8_laysBack_37 rfl rfl ?_
  refine wp_aload_n dX8_laysBack_38 rfl rfl ?_
  refine wp_get 69 rfl fl_RX8_54 rfl ⟨by omega, by omega⟩ dX8_laysBack_39 rfl (v := 83) (sr_69_39 (M := M) hR) ?_
  refine wp_iload_n dX8_laysBack_42 rfl rfl ?_
  refine wp_iald 83 rfl rfl ⟨by omega, by omega⟩ ⟨by omega, by omega⟩ dX8_laysBack_43 (v := (M 83 0)) (rfl) ?_
  refine wp_iast 74 rfl rfl ⟨by omega, by omega⟩ ⟨by omega, by omega⟩ dX8_laysBack_44 (jn := 0) rfl ?_
  refine wp_iinc (loc' := [(2, 69), (0, 1)]) dX8_laysBack_45 rfl (by omega) rfl ?_
  refine wp_goto (tgt := 27) dX8_laysBack_48 (by decide) ?_
  refine wp_iload_n dX8_laysBack_27 rfl rfl ?_
  refine wp_bipush dX8_laysBack_28 (by decide) (by decide) ?_
  refine wp_icmp_ge (tgt := 51) dX8_laysBack_30 (by decide) (fun h => absurd h (by decide)) (fun _ => ?_)
  refine wp_aload_n dX8_laysBack_33 rfl rfl ?_
  refine wp_get 69 rfl fl_RX8_26 rfl ⟨by omega, by omega⟩ dX8_laysBack_34 rfl (v := 74) (sr_69_9 (M := M) hR) ?_
  refine wp_iload_n dX8_laysBack_37 rfl rfl ?_
  refine wp_aload_n dX8_laysBack_38 rfl rfl ?_
  refine wp_get 69 rfl fl_RX8_54 rfl ⟨by omega, by omega⟩ dX8_laysBack_39 rfl (v := 83) (sr_69_39 (M := M) hR) ?_
  refine wp_iload_n dX8_laysBack_42 rfl rfl ?_
  refine wp_iald 83 rfl rfl ⟨by omega, by omega⟩ ⟨by omega, by omega⟩ dX8_laysBack_43 (v := (M 83 1)) (rfl) ?_
  refine wp_iast 74 rfl rfl ⟨by omega, by omega⟩ ⟨by omega, by omega⟩ dX8_laysBack_44 (jn := 1) rfl ?_
  refine wp_iinc (loc' := [(2, 69), (0, 2)]) dX8_laysBack_45 rfl (by omega) rfl ?_
  refine wp_goto (tgt := 27) dX8_laysBack_48 (by decide) ?_
  refine wp_iload_n dX8_laysBack_27 rfl rfl ?_
  refine wp_bipush dX8_laysBack_28 (by decide) (by decide) ?_
  refine wp_icmp_ge (tgt := 51) dX8_laysBack_30 (by decide) (fun h => absurd h (by decide)) (fun _ => ?_)
  refine wp_aload_n dX8_laysBack_33 rfl rfl ?_
  refine wp_get 69 rfl fl_RX8_26 rfl ⟨by omega, by omega⟩ dX8_laysBack_34 rfl (v := 74) (sr_69_9 (M := M) hR) ?_
  refine wp_iload_n dX8_laysBack_37 rfl rfl ?_
  refine wp_aload_n dX8_laysBack_38 rfl rfl ?_
  refine wp_get 69 rfl fl_RX8_54 rfl ⟨by omega, by omega⟩ dX8_laysBack_39 rfl (v := 83) (sr_69_39 (M := M) hR) ?_
  refine wp_iload_n dX8_laysBack_42 rfl rfl ?_
  refine wp_iald 83 rfl rfl ⟨by omega, by omega⟩ ⟨by omega, by omega⟩ dX8_laysBack_43 (v := (M 83 2)) (rfl) ?_
  refine wp_iast 74 rfl rfl ⟨by omega, by omega⟩ ⟨by omega, by omega⟩ dX8_laysBack_44 (jn := 2) rfl ?_
  refine wp_iinc (loc' := [(2, 69), (0, 3)]) dX8_laysBack_45 rfl (by omega) rfl ?_
  refine wp_goto (tgt := 27) dX8_laysBack_48 (by decide) ?_
  refine wp_iload_n dX8_laysBack_27 rfl rfl ?_
  refine wp_bipush dX8_laysBack_28 (by decide) (by decide) ?_
  refine wp_icmp_ge (tgt := 51) dX8_laysBack_30 (by decide) (fun h => absurd h (by decide)) (fun _ => ?_)
  refine wp_aload_n dX8_laysBack_33 rfl rfl ?_
  refine wp_get 69 rfl fl_RX8_26 rfl ⟨by omega, by omega⟩ dX8_laysBack_34 rfl (v := 74) (sr_69_9 (M := M) hR) ?_
  refine wp_iload_n dX8_laysBack_37 rfl rfl ?_
  refine wp_aload_n dX8_laysBack_38 rfl rfl ?_
  refine wp_get 69 rfl fl_RX8_54 rfl ⟨by omega, by omega⟩ dX8_laysBack_39 rfl (v := 83) (sr_69_39 (M := M) hR) ?_
  refine wp_iload_n dX8_laysBack_42 rfl rfl ?_
  refine wp_iald 83 rfl rfl ⟨by omega, by omega⟩ ⟨by omega, by omega⟩ dX8_laysBack_43 (v := (M 83 3)) (rfl) ?_
  refine wp_iast 74 rfl rfl ⟨by omega, by omega⟩ ⟨by omega, by omega⟩ dX8_laysBack_44 (jn := 3) rfl ?_
  refine wp_iinc (loc' := [(2, 69), (0, 4)]) dX8_laysBack_45 rfl (by omega) rfl ?_
  refine wp_goto (tgt := 27) dX8_laysBack_48 (by decide) ?_
  refine wp_iload_n dX8_laysBack_27 rfl rfl ?_
  refine wp_bipush dX8_laysBack_28 (by decide) (by decide) ?_
  refine wp_icmp_ge (tgt := 51) dX8_laysBack_30 (by decide) (fun h => absurd h (by decide)) (fun _ => ?_)
  refine wp_aload_n dX8_laysBack_33 rfl rfl ?_
  refine wp_get 69 rfl fl_RX8_26 rfl ⟨by omega, by omega⟩ dX8_laysBack_34 rfl (v := 74) (sr_69_9 (M := M) hR) ?_
  refine wp_iload_n dX8_laysBack_37 rfl rfl ?_
  refine wp_aload_n dX8_laysBack_38 rfl rfl ?_
  refine wp_get 69 rfl fl_RX8_54 rfl ⟨by omega, by omega⟩ dX8_laysBack_39 rfl (v := 83) (sr_69_39 (M := M) hR) ?_
  refine wp_iload_n dX8_laysBack_42 rfl rfl ?_
  refine wp_iald 83 rfl rfl ⟨by omega, by omega⟩ ⟨by omega, by omega⟩ dX8_laysBack_43 (v := (M 83 4)) (rfl) ?_
  refine wp_iast 74 rfl rfl ⟨by omega, by omega⟩ ⟨by omega, by omega⟩ dX8_laysBack_44 (jn := 4) rfl ?_
  refine wp_iinc (loc' := [(2, 69), (0, 5)]) dX8_laysBack_45 rfl (by omega) rfl ?_
  refine wp_goto (tgt := 27) dX8_laysBack_48 (by decide) ?_
  refine wp_iload_n dX8_laysBack_27 rfl rfl ?_
  refine wp_bipush dX8_laysBack_28 (by decide) (by decide) ?_
  refine wp_icmp_ge (tgt := 51) dX8_laysBack_30 (by decide) (fun h => absurd h (by decide)) (fun _ => ?_)
  refine wp_aload_n dX8_laysBack_33 rfl rfl ?_
  refine wp_get 69 rfl fl_RX8_26 rfl ⟨by omega, by omega⟩ dX8_laysBack_34 rfl (v := 74) (sr_69_9 (M := M) hR) ?_
  refine wp_iload_n dX8_laysBack_37 rfl rfl ?_
  refine wp_aload_n dX8_laysBack_38 rfl rfl ?_
  refine wp_get 69 rfl fl_RX8_54 rfl ⟨by omega, by omega⟩ dX8_laysBack_39 rfl (v := 83) (sr_69_39 (M := M) hR) ?_
  refine wp_iload_n dX8_laysBack_42 rfl rfl ?_
  refine wp_iald 83 rfl rfl ⟨by omega, by omega⟩ ⟨by omega, by omega⟩ dX8_laysBack_43 (v := (M 83 5)) (rfl) ?_
  refine wp_iast 74 rfl rfl ⟨by omega, by omega⟩ ⟨by omega, by omega⟩ dX8_laysBack_44 (jn := 5) rfl ?_
  refine wp_iinc (loc' := [(2, 69), (0, 6)]) dX8_laysBack_45 rfl (by omega) rfl ?_
  refine wp_goto (tgt := 27) dX8_laysBack_48 (by decide) ?_
  refine wp_iload_n dX8_laysBack_27 rfl rfl ?_
  refine wp_bipush dX8_laysBack_28 (by decide) (by decide) ?_
  refine wp_icmp_ge (tgt := 51) dX8_laysBack_30 (by decide) (fun h => absurd h (by decide)) (fun _ => ?_)
  refine wp_aload_n dX8_laysBack_33 rfl rfl ?_
  refine wp_get 69 rfl fl_RX8_26 rfl ⟨by omega, by omega⟩ dX8_laysBack_34 rfl (v := 74) (sr_69_9 (M := M) hR) ?_
  refine wp_iload_n dX8_laysBack_37 rfl rfl ?_
  refine wp_aload_n dX8_laysBack_38 rfl rfl ?_
  refine wp_get 69 rfl fl_RX8_54 rfl ⟨by omega, by omega⟩ dX8_laysBack_39 rfl (v := 83) (sr_69_39 (M := M) hR) ?_
  refine wp_iload_n dX8_laysBack_42 rfl rfl ?_
  refine wp_iald 83 rfl rfl ⟨by omega, by omega⟩ ⟨by omega, by omega⟩ dX8_laysBack_43 (v := (M 83 6)) (rfl) ?_
  refine wp_iast 74 rfl rfl ⟨by omega, by omega⟩ ⟨by omega, by omega⟩ dX8_laysBack_44 (jn := 6) rfl ?_
  refine wp_iinc (loc' := [(2, 69), (0, 7)]) dX8_laysBack_45 rfl (by omega) rfl ?_
  refine wp_goto (tgt := 27) dX8_laysBack_48 (by decide) ?_
  refine wp_iload_n dX8_laysBack_27 rfl rfl ?_
  refine wp_bipush dX8_laysBack_28 (by decide) (by decide) ?_
  refine wp_icmp_ge (tgt := 51) dX8_laysBack_30 (by decide) (fun h => absurd h (by decide)) (fun _ => ?_)
  refine wp_aload_n dX8_laysBack_33 rfl rfl ?_
  refine wp_get 69 rfl fl_RX8_26 rfl ⟨by omega, by omega⟩ dX8_laysBack_34 rfl (v := 74) (sr_69_9 (M := M) hR) ?_
  refine wp_iload_n dX8_laysBack_37 rfl rfl ?_
  refine wp_aload_n dX8_laysBack_38 rfl rfl ?_
  refine wp_get 69 rfl fl_RX8_54 rfl ⟨by omega, by omega⟩ dX8_laysBack_39 rfl (v := 83) (sr_69_39 (M := M) hR) ?_
  refine wp_iload_n dX8_laysBack_42 rfl rfl ?_
  refine wp_iald 83 rfl rfl ⟨by omega, by omega⟩ ⟨by omega, by omega⟩ dX8_laysBack_43 (v := (M 83 7)) (rfl) ?_
  refine wp_iast 74 rfl rfl ⟨by omega, by omega⟩ ⟨by omega, by omega⟩ dX8_laysBack_44 (jn := 7) rfl ?_
  refine wp_iinc (loc' := [(2, 69), (0, 8)]) dX8_laysBack_45 rfl (by omega) rfl ?_
  refine wp_goto (tgt := 27) dX8_laysBack_48 (by decide) ?_
  refine wp_iload_n dX8_laysBack_27 rfl rfl ?_
  refine wp_bipush dX8_laysBack_28 (by decide) (by decide) ?_
  refine wp_icmp_ge (tgt := 51) dX8_laysBack_30 (by decide) (fun h => absurd h (by decide)) (fun _ => ?_)
  refine wp_aload_n dX8_laysBack_33 rfl rfl ?_
  refine wp_get 69 rfl fl_RX8_26 rfl ⟨by omega, by omega⟩ dX8_laysBack_34 rfl (v := 74) (sr_69_9 (M := M) hR) ?_
  refine wp_iload_n dX8_laysBack_37 rfl rfl ?_
  refine wp_aload_n dX8_laysBack_38 rfl rfl ?_
  refine wp_get 69 rfl fl_RX8_54 rfl ⟨by omega, by omega⟩ dX8_laysBack_39 rfl (v := 83) (sr_69_39 (M := M) hR) ?_
  refine wp_iload_n dX8_laysBack_42 rfl rfl ?_
  refine wp_iald 83 rfl rfl ⟨by omega, by omega⟩ ⟨by omega, by omega⟩ dX8_laysBack_43 (v := (M 83 8)) (rfl) ?_
  refine wp_iast 74 rfl rfl ⟨by omega, by omega⟩ ⟨by omega, by omega⟩ dX8_laysBack_44 (jn := 8) rfl ?_
  refine wp_iinc (loc' := [(2, 69), (0, 9)]) dX8_laysBack_45 rfl (by omega) rfl ?_
  refine wp_goto (tgt := 27) dX8_laysBack_48 (by decide) ?_
  refine wp_iload_n dX8_laysBack_27 rfl rfl ?_
  refine wp_bipush dX8_laysBack_28 (by decide) (by decide) ?_
  refine wp_icmp_ge (tgt := 51) dX8_laysBack_30 (by decide) (fun h => absurd h (by decide)) (fun _ => ?_)
  refine wp_aload_n dX8_laysBack_33 rfl rfl ?_
  refine wp_get 69 rfl fl_RX8_26 rfl ⟨by omega, by omega⟩ dX8_laysBack_34 rfl (v := 74) (sr_69_9 (M := M) hR) ?_
  refine wp_iload_n dX8_laysBack_37 rfl rfl ?_
  refine wp_aload_n dX8_laysBack_38 rfl rfl ?_
  refine wp_get 69 rfl fl_RX8_54 rfl ⟨by omega, by omega⟩ dX8_laysBack_39 rfl (v := 83) (sr_69_39 (M := M) hR) ?_
  refine wp_iload_n dX8_laysBack_42 rfl rfl ?_
  refine wp_iald 83 rfl rfl ⟨by omega, by omega⟩ ⟨by omega, by omega⟩ dX8_laysBack_43 (v := (M 83 9)) (rfl) ?_
  refine wp_iast 74 rfl rfl ⟨by omega, by omega⟩ ⟨by omega, by omega⟩ dX8_laysBack_44 (jn := 9) rfl ?_
  refine wp_iinc (loc' := [(2, 69), (0, 10)]) dX8_laysBack_45 rfl (by omega) rfl ?_
  refine wp_goto (tgt := 27) dX8_laysBack_48 (by decide) ?_
  refine wp_iload_n dX8_laysBack_27 rfl rfl ?_
  refine wp_bipush dX8_laysBack_28 (by decide) (by decide) ?_
  refine wp_icmp_ge (tgt := 51) dX8_laysBack_30 (by decide) (fun h => absurd h (by decide)) (fun _ => ?_)
  refine wp_aload_n dX8_laysBack_33 rfl rfl ?_
  refine wp_get 69 rfl fl_RX8_26 rfl ⟨by omega, by omega⟩ dX8_laysBack_34 rfl (v := 74) (sr_69_9 (M := M) hR) ?_
  refine wp_iload_n dX8_laysBack_37 rfl rfl ?_
  refine wp_aload_n dX8_laysBack_38 rfl rfl ?_
  refine wp_get 69 rfl fl_RX8_54 rfl ⟨by omega, by omega⟩ dX8_laysBack_39 rfl (v := 83) (sr_69_39 (M := M) hR) ?_
  refine wp_iload_n dX8_laysBack_42 rfl rfl ?_
  refine wp_iald 83 rfl rfl ⟨by omega, by omega⟩ ⟨by omega, by omega⟩ dX8_laysBack_43 (v := (M 83 10)) (rfl) ?_
  refine wp_iast 74 rfl rfl ⟨by omega, by omega⟩ ⟨by omega, by omega⟩ dX8_laysBack_44 (jn := 10) rfl ?_
  refine wp_iinc (loc' := [(2, 69), (0, 11)]) dX8_laysBack_45 rfl (by omega) rfl ?_
  refine wp_goto (tgt := 27) dX8_laysBack_48 (by decide) ?_
  refine wp_iload_n dX8_laysBack_27 rfl rfl ?_
  refine wp_bipush dX8_laysBack_28 (by decide) (by decide) ?_
  refine wp_icmp_ge (tgt := 51) dX8_laysBack_30 (by decide) (fun h => absurd h (by decide)) (fun _ => ?_)
  refine wp_aload_n dX8_laysBack_33 rfl rfl ?_
  refine wp_get 69 rfl fl_RX8_26 rfl ⟨by omega, by omega⟩ dX8_laysBack_34 rfl (v := 74) (sr_69_9 (M := M) hR) ?_
  refine wp_iload_n dX8_laysBack_37 rfl rfl ?_
  refine wp_aload_n dX8_laysBack_38 rfl rfl ?_
  refine wp_get 69 rfl fl_RX8_54 rfl ⟨by omega, by omega⟩ dX8_laysBack_39 rfl (v := 83) (sr_69_39 (M := M) hR) ?_
  refine wp_iload_n dX8_laysBack_42 rfl rfl ?_
  refine wp_iald 83 rfl rfl ⟨by omega, by omega⟩ ⟨by omega, by omega⟩ dX8_laysBack_43 (v := (M 83 11)) (rfl) ?_
  refine wp_iast 74 rfl rfl ⟨by omega, by omega⟩ ⟨by omega, by omega⟩ dX8_laysBack_44 (jn := 11) rfl ?_
  refine wp_iinc (loc' := [(2, 69), (0, 12)]) dX8_laysBack_45 rfl (by omega) rfl ?_
  refine wp_goto (tgt := 27) dX8_laysBack_48 (by decide) ?_
  refine wp_iload_n dX8_laysBack_27 rfl rfl ?_
  refine wp_bipush dX8_laysBack_28 (by decide) (by decide) ?_
  refine wp_icmp_ge (tgt := 51) dX8_laysBack_30 (by decide) (fun h => absurd h (by decide)) (fun _ => ?_)
  refine wp_aload_n dX8_laysBack_33 rfl rfl ?_
  refine wp_get 69 rfl fl_RX8_26 rfl ⟨by omega, by omega⟩ dX8_laysBack_34 rfl (v := 74) (sr_69_9 (M := M) hR) ?_
  refine wp_iload_n dX8_laysBack_37 rfl rfl ?_
  refine wp_aload_n dX8_laysBack_38 rfl rfl ?_
  refine wp_get 69 rfl fl_RX8_54 rfl ⟨by omega, by omega⟩ dX8_laysBack_39 rfl (v := 83) (sr_69_39 (M := M) hR) ?_
  refine wp_iload_n dX8_laysBack_42 rfl rfl ?_
  refine wp_iald 83 rfl rfl ⟨by omega, by omega⟩ ⟨by omega, by omega⟩ dX8_laysBack_43 (v := (M 83 12)) (rfl) ?_
  refine wp_iast 74 rfl rfl ⟨by omega, by omega⟩ ⟨by omega, by omega⟩ dX8_laysBack_44 (jn := 12) rfl ?_
  refine wp_iinc (loc' := [(2, 69), (0, 13)]) dX8_laysBack_45 rfl (by omega) rfl ?_
  refine wp_goto (tgt := 27) dX8_laysBack_48 (by decide) ?_
  refine wp_iload_n dX8_laysBack_27 rfl rfl ?_
  refine wp_bipush dX8_laysBack_28 (by decide) (by decide) ?_
  refine wp_icmp_ge (tgt := 51) dX8_laysBack_30 (by decide) (fun h => absurd h (by decide)) (fun _ => ?_)
  refine wp_aload_n dX8_laysBack_33 rfl rfl ?_
  refine wp_get 69 rfl fl_RX8_26 rfl ⟨by omega, by omega⟩ dX8_laysBack_34 rfl (v := 74) (sr_69_9 (M := M) hR) ?_
  refine wp_iload_n dX8_laysBack_37 rfl rfl ?_
  refine wp_aload_n dX8_laysBack_38 rfl rfl ?_
  refine wp_get 69 rfl fl_RX8_54 rfl ⟨by omega, by omega⟩ dX8_laysBack_39 rfl (v := 83) (sr_69_39 (M := M) hR) ?_
  refine wp_iload_n dX8_laysBack_42 rfl rfl ?_
  refine wp_iald 83 rfl rfl ⟨by omega, by omega⟩ ⟨by omega, by omega⟩ dX8_laysBack_43 (v := (M 83 13)) (rfl) ?_
  refine wp_iast 74 rfl rfl ⟨by omega, by omega⟩ ⟨by omega, by omega⟩ dX8_laysBack_44 (jn := 13) rfl ?_
  refine wp_iinc (loc' := [(2, 69), (0, 14)]) dX8_laysBack_45 rfl (by omega) rfl ?_
  refine wp_goto (tgt := 27) dX8_laysBack_48 (by decide) ?_
  refine wp_iload_n dX8_laysBack_27 rfl rfl ?_
  refine wp_bipush dX8_laysBack_28 (by decide) (by decide) ?_
  refine wp_icmp_ge (tgt := 51) dX8_laysBack_30 (by decide) (fun h => absurd h (by decide)) (fun _ => ?_)
  refine wp_aload_n dX8_laysBack_33 rfl rfl ?_
  refine wp_get 69 rfl fl_RX8_26 rfl ⟨by omega, by omega⟩ dX8_laysBack_34 rfl (v := 74) (sr_69_9 (M := M) hR) ?_
  refine wp_iload_n dX8_laysBack_37 rfl rfl ?_
  refine wp_aload_n dX8_laysBack_38 rfl rfl ?_
  refine wp_get 69 rfl fl_RX8_54 rfl ⟨by omega, by omega⟩ dX8_laysBack_39 rfl (v := 83) (sr_69_39 (M := M) hR) ?_
  refine wp_iload_n dX8_laysBack_42 rfl rfl ?_
  refine wp_iald 83 rfl rfl ⟨by omega, by omega⟩ ⟨by omega, by omega⟩ dX8_laysBack_43 (v := (M 83 14)) (rfl) ?_
  refine wp_iast 74 rfl rfl ⟨by omega, by omega⟩ ⟨by omega, by omega⟩ dX8_laysBack_44 (jn := 14) rfl ?_
  refine wp_iinc (loc' := [(2, 69), (0, 15)]) dX8_laysBack_45 rfl (by omega) rfl ?_
  refine wp_goto (tgt := 27) dX8_laysBack_48 (by decide) ?_
  refine wp_iload_n dX8_laysBack_27 rfl rfl ?_
  refine wp_bipush dX8_laysBack_28 (by decide) (by decide) ?_
  refine wp_icmp_ge (tgt := 51) dX8_laysBack_30 (by decide) (fun h => absurd h (by decide)) (fun _ => ?_)
  refine wp_aload_n dX8_laysBack_33 rfl rfl ?_
  refine wp_get 69 rfl fl_RX8_26 rfl ⟨by omega, by omega⟩ dX8_laysBack_34 rfl (v := 74) (sr_69_9 (M := M) hR) ?_
  refine wp_iload_n dX8_laysBack_37 rfl rfl ?_
  refine wp_aload_n dX8_laysBack_38 rfl rfl ?_
  refine wp_get 69 rfl fl_RX8_54 rfl ⟨by omega, by omega⟩ dX8_laysBack_39 rfl (v := 83) (sr_69_39 (M := M) hR) ?_
  refine wp_iload_n dX8_laysBack_42 rfl rfl ?_
  refine wp_iald 83 rfl rfl ⟨by omega, by omega⟩ ⟨by omega, by omega⟩ dX8_laysBack_43 (v := (M 83 15)) (rfl) ?_
  refine wp_iast 74 rfl rfl ⟨by omega, by omega⟩ ⟨by omega, by omega⟩ dX8_laysBack_44 (jn := 15) rfl ?_
  refine wp_iinc (loc' := [(2, 69), (0, 16)]) dX8_laysBack_45 rfl (by omega) rfl ?_
  refine wp_goto (tgt := 27) dX8_laysBack_48 (by decide) ?_
  refine wp_iload_n dX8_laysBack_27 rfl rfl ?_
  refine wp_bipush dX8_laysBack_28 (by decide) (by decide) ?_
  refine wp_icmp_ge (tgt := 51) dX8_laysBack_30 (by decide) (fun h => absurd h (by decide)) (fun _ => ?_)
  refine wp_aload_n dX8_laysBack_33 rfl rfl ?_
  refine wp_get 69 rfl fl_RX8_26 rfl ⟨by omega, by omega⟩ dX8_laysBack_34 rfl (v := 74) (sr_69_9 (M := M) hR) ?_
  refine wp_iload_n dX8_laysBack_37 rfl rfl ?_
  refine wp_aload_n dX8_laysBack_38 rfl rfl ?_
  refine wp_get 69 rfl fl_RX8_54 rfl ⟨by omega, by omega⟩ dX8_laysBack_39 rfl (v := 83) (sr_69_39 (M := M) hR) ?_
  refine wp_iload_n dX8_laysBack_42 rfl rfl ?_
  refine wp_iald 83 rfl rfl ⟨by omega, by omega⟩ ⟨by omega, by omega⟩ dX8_laysBack_43 (v := (M 83 16)) (rfl) ?_
  refine wp_iast 74 rfl rfl ⟨by omega, by omega⟩ ⟨by omega, by omega⟩ dX8_laysBack_44 (jn := 16) rfl ?_
  refine wp_iinc (loc' := [(2, 69), (0, 17)]) dX8_laysBack_45 rfl (by omega) rfl ?_
  refine wp_goto (tgt := 27) dX8_laysBack_48 (by decide) ?_
  refine wp_iload_n dX8_laysBack_27 rfl rfl ?_
  refine wp_bipush dX8_laysBack_28 (by decide) (by decide) ?_
  refine wp_icmp_ge (tgt := 51) dX8_laysBack_30 (by decide) (fun h => absurd h (by decide)) (fun _ => ?_)
  refine wp_aload_n dX8_laysBack_33 rfl rfl ?_
  refine wp_get 69 rfl fl_RX8_26 rfl ⟨by omega, by omega⟩ dX8_laysBack_34 rfl (v := 74) (sr_69_9 (M := M) hR) ?_
  refine wp_iload_n dX8_laysBack_37 rfl rfl ?_
  refine wp_aload_n dX8_laysBack_38 rfl rfl ?_
  refine wp_get 69 rfl fl_RX8_54 rfl ⟨by omega, by omega⟩ dX8_laysBack_39 rfl (v := 83) (sr_69_39 (M := M) hR) ?_
  refine wp_iload_n dX8_laysBack_42 rfl rfl ?_
  refine wp_iald 83 rfl rfl ⟨by omega, by omega⟩ ⟨by omega, by omega⟩ dX8_laysBack_43 (v := (M 83 17)) (rfl) ?_
  refine wp_iast 74 rfl rfl ⟨by omega, by omega⟩ ⟨by omega, by omega⟩ dX8_laysBack_44 (jn := 17) rfl ?_
  refine wp_iinc (loc' := [(2, 69), (0, 18)]) dX8_laysBack_45 rfl (by omega) rfl ?_
  refine wp_goto (tgt := 27) dX8_laysBack_48 (by decide) ?_
  refine wp_iload_n dX8_laysBack_27 rfl rfl ?_
  refine wp_bipush dX8_laysBack_28 (by decide) (by decide) ?_
  refine wp_icmp_ge (tgt := 51) dX8_laysBack_30 (by decide) (fun h => absurd h (by decide)) (fun _ => ?_)
  refine wp_aload_n dX8_laysBack_33 rfl rfl ?_
  refine wp_get 69 rfl fl_RX8_26 rfl ⟨by omega, by omega⟩ dX8_laysBack_34 rfl (v := 74) (sr_69_9 (M := M) hR) ?_
  refine wp_iload_n dX8_laysBack_37 rfl rfl ?_
  refine wp_aload_n dX8_laysBack_38 rfl rfl ?_
  refine wp_get 69 rfl fl_RX8_54 rfl ⟨by omega, by omega⟩ dX8_laysBack_39 rfl (v := 83) (sr_69_39 (M := M) hR) ?_
  refine wp_iload_n dX8_laysBack_42 rfl rfl ?_
  refine wp_iald 83 rfl rfl ⟨by omega, by omega⟩ ⟨by omega, by omega⟩ dX8_laysBack_43 (v := (M 83 18)) (rfl) ?_
  refine wp_iast 74 rfl rfl ⟨by omega, by omega⟩ ⟨by omega, by omega⟩ dX8_laysBack_44 (jn := 18) rfl ?_
  refine wp_iinc (loc' := [(2, 69), (0, 19)]) dX8_laysBack_45 rfl (by omega) rfl ?_
  refine wp_goto (tgt := 27) dX8_laysBack_48 (by decide) ?_
  refine wp_iload_n dX8_laysBack_27 rfl rfl ?_
  refine wp_bipush dX8_laysBack_28 (by decide) (by decide) ?_
  refine wp_icmp_ge (tgt := 51) dX8_laysBack_30 (by decide) (fun h => absurd h (by decide)) (fun _ => ?_)
  refine wp_aload_n dX8_laysBack_33 rfl rfl ?_
  refine wp_get 69 rfl fl_RX8_26 rfl ⟨by omega, by omega⟩ dX8_laysBack_34 rfl (v := 74) (sr_69_9 (M := M) hR) ?_
  refine wp_iload_n dX8_laysBack_37 rfl rfl ?_
  refine wp_aload_n dX8_laysBack_38 rfl rfl ?_
  refine wp_get 69 rfl fl_RX8_54 rfl ⟨by omega, by omega⟩ dX8_laysBack_39 rfl (v := 83) (sr_69_39 (M := M) hR) ?_
  refine wp_iload_n dX8_laysBack_42 rfl rfl ?_
  refine wp_iald 83 rfl rfl ⟨by omega, by omega⟩ ⟨by omega, by omega⟩ dX8_laysBack_43 (v := (M 83 19)) (rfl) ?_
  refine wp_iast 74 rfl rfl ⟨by omega, by omega⟩ ⟨by omega, by omega⟩ dX8_laysBack_44 (jn := 19) rfl ?_
  refine wp_iinc (loc' := [(2, 69), (0, 20)]) dX8_laysBack_45 rfl (by omega) rfl ?_
  refine wp_goto (tgt := 27) dX8_laysBack_48 (by decide) ?_
  refine wp_iload_n dX8_laysBack_27 rfl rfl ?_
  refine wp_bipush dX8_laysBack_28 (by decide) (by decide) ?_
  refine wp_icmp_ge (tgt := 51) dX8_laysBack_30 (by decide) (fun _ => ?_) (fun h => absurd h (by decide))
  refine wp_aload_n dX8_laysBack_51 rfl rfl ?_
  refine wp_aload_n dX8_laysBack_52 rfl rfl ?_
  refine wp_get 69 rfl fl_RX8_424 rfl ⟨by omega, by omega⟩ dX8_laysBack_53 rfl (v := (M 69 40)) (rfl) ?_
  refine wp_puti 69 rfl fl_RX8_123 rfl ⟨by omega, by omega⟩ dX8_laysBack_56 rfl rfl ?_
  refine wp_aload_n dX8_laysBack_59 rfl rfl ?_
  refine wp_aload_n dX8_laysBack_60 rfl rfl ?_
  refine wp_get 69 rfl fl_RX8_427 rfl ⟨by omega, by omega⟩ dX8_laysBack_61 rfl (v := (M 69 41)) (rfl) ?_
  refine wp_puti 69 rfl fl_RX8_113 rfl ⟨by omega, by omega⟩ dX8_laysBack_64 rfl rfl ?_
  refine wp_vret rfl dX8_laysBack_67 ?_
  refine k _ ((((((((((((((((((((((((((((Fr.rf : Fr VMb M M).put (by unfold VMb; omega)).put (by unfold VMb; omega)).put (by unfold VMb; omega)).put (by unfold VMb; omega)).put (by unfold VMb; omega)).put (by unfold VMb; omega)).put (by unfold VMb; omega)).put (by unfold VMb; omega)).put (by unfold VMb; omega)).put (by unfold VMb; omega)).put (by unfold VMb; omega)).put (by unfold VMb; omega)).put (by unfold VMb; omega)).put (by unfold VMb; omega)).put (by unfold VMb; omega)).put (by unfold VMb; omega)).put (by unfold VMb; omega)).put (by unfold VMb; omega)).put (by unfold VMb; omega)).put (by unfold VMb; omega)).put (by unfold VMb; omega)).put (by unfold VMb; omega)).put (by unfold VMb; omega)).put (by unfold VMb; omega)).put (by unfold VMb; omega)).put (by unfold VMb; omega)).put (by unfold VMb; omega)) ?_ ?_ rfl rfl
  · intro j hj
    rcases (show j = 0 ∨ j = 1 ∨ j = 2 ∨ j = 3 ∨ j = 4 by omega) with rfl | rfl | rfl | rfl | rfl
    · rfl
    · rfl
    · rfl
    · rfl
    · rfl
  · intro j hj
    rcases (show j = 0 ∨ j = 1 ∨ j = 2 ∨ j = 3 ∨ j = 4 ∨ j = 5 ∨ j = 6 ∨ j = 7 ∨ j = 8 ∨ j = 9 ∨ j = 10 ∨ j = 11 ∨ j = 12 ∨ j = 13 ∨ j = 14 ∨ j = 15 ∨ j = 16 ∨ j = 17 ∨ j = 18 ∨ j = 19 by omega) with rfl | rfl | rfl | rfl | rfl | rfl | rfl | rfl | rfl | rfl | rfl | rfl | rfl | rfl | rfl | rfl | rfl | rfl | rfl | rfl
    · rfl
    · rfl
    · rfl
    · rfl
    · rfl
    · rfl
    · rfl
    · rfl
    · rfl
    · rfl
    · rfl
    · rfl
    · rfl
    · rfl
    · rfl
    · rfl
    · rfl
    · rfl
    · rfl
    · rfl
theorem VMb.l : ∀ i j, VMb i j → VMl i j := by
  intro i j h
  unfold VMb at h
  unfold VMl
  omega
/-- lands with the same people and rule -/
def SLa (A A' : Ls) : Prop := A'.1 1 = A.1 1 ∧ A'.1 2 = A.1 2 ∧ ∀ i, A'.2 0 i = A.2 0 i
theorem SLa.rf {A : Ls} : SLa A A := ⟨rfl, rfl, fun _ => rfl⟩
theorem SLa.tick {A A' : Ls} (h : SLa A A') (E : Ev) : SLa A (tickA E A').1 := by
  unfold tickA
  split
  · split
    · exact h
    · exact h
  · exact h
theorem sp_asd {l : Launch} {g : Gw} {d n : Nat} {M : Mm} {Q : Option Wd → Mm → Prop} (hn : 90 ≤ n) {A : Ls} {E : Ev} (hI : MJ M A E) (k : ∀ M', MJ M' A E → ASm M' A → Fr VMw M M' → Q none M') : Wp l g d 0 0 n m_X8_laysAside 0 [] [(2, 69), (9, 0)] M Q := by
  obtain ⟨hR, hA, hW, hr, hX⟩ := id hI
  have w5 := hW.2.1
  have w32 := hW.2.2.2.1
  refine sp_asd0 hn hR (fun M1 f1 a1 a2 a3 a4 => k M1 (hI.frn (f1.mono VMw.n) (VMw.sr f1 hR)) ⟨a3.trans hA.2.2.2.1, a4.trans hA.1, fun q hq => (a1 q (by omega)).trans (hA.2.2.2.2.2.2 q hq), fun r i hr hi => (a2 _ (by omega)).trans (hA.2.2.2.2.2.1 r i hr hi)⟩ f1)
theorem sp_bck {l : Launch} {g : Gw} {d n : Nat} {M : Mm} {Q : Option Wd → Mm → Prop} (hn : 90 ≤ n) {A A' : Ls} {E : Ev} (hI : MJ M A' E) (hS : SLa A A') (hW : Wf A) (hB : ASm M A) (k : ∀ M', MJ M' A E → Fr VMb M M' → Q none M') : Wp l g d 0 0 n m_X8_laysBack 0 [] [(2, 69), (9, 0)] M Q := by
  obtain ⟨hR, hA, hW', hr, hX⟩ := id hI
  have w5 := hW.2.1
  have w32 := hW.2.2.2.1
  refine sp_bck0 hn hR (fun M1 f1 a1 a2 a3 a4 => k M1 (hI.new (f1.mono VMb.l) ⟨a4.trans hB.2.1, (f1 69 4 (by unfold VMb; omega)).trans (hA.2.1.trans hS.1), (f1 69 10 (by unfold VMb; omega)).trans (hA.2.2.1.trans hS.2.1), a3.trans hB.1, fun i hi => (f1 73 i (by unfold VMb; omega)).trans ((hA.2.2.2.2.1 i (by rw [hS.2.1]; exact hi)).trans (hS.2.2 i)), fun r i hr hi => (a2 _ (by omega)).trans (hB.2.2.2 r i hr hi), fun q hq => (a1 q (by omega)).trans (hB.2.2.1 q hq)⟩ hW (by rw [← hS.1]; exact hr)) f1)
set_option maxRecDepth 20000 in
set_option maxHeartbeats 4000000 in
theorem sp_fnm {l : Launch} {g : Gw} {d n : Nat} {M : Mm} {Q : Option Wd → Mm → Prop} (hn : 90 ≤ n) {A : Ls} {E : Ev} (hI : MJ M A E) (k : Q (some (0, fstA A)) M) : Wp l g d 0 0 n m_X8_firstNow 0 [] [(2, 69)] M Q := by
  obtain ⟨hR, hA, hW, hr, hX⟩ := id hI
  have w2 := hW.1
  have w5 := hW.2.1
  have w3 := hW.2.2.1
  have w32 := hW.2.2.2.1
  refine wp_aload_n dX8_firstNow_0 rfl rfl ?_
  refine wp_get 69 rfl fl_RX8_123 rfl ⟨by omega, by omega⟩ dX8_firstNow_1 rfl (v := (A.1 3)) (hA.2.2.2.1) ?_
  refine wp_if_le (tgt := 16) dX8_firstNow_4 (by decide) (fun h4 => ?_) (fun h4 => ?_)
  · refine wp_iconst dX8_firstNow_16 (by decide) ?_
    refine wp_iret rfl dX8_firstNow_17 ?_
    rw [show fstA A = (-1) from if_neg (by omega)] at k
    exact k
  · refine wp_aload_n dX8_firstNow_7 rfl rfl ?_
    refine wp_get 69 rfl fl_RX8_29 rfl ⟨by omega, by omega⟩ dX8_firstNow_8 rfl (v := 75) (sr_69_11 (M := M) hR) ?_
    refine wp_iconst dX8_firstNow_11 (by decide) ?_
    refine wp_iald 75 rfl rfl ⟨by omega, by omega⟩ ⟨by omega, by omega⟩ dX8_firstNow_12 (v := (A.2 5 0)) (hA.2.2.2.2.2.2 0 (by omega)) ?_
    refine wp_goto (tgt := 17) dX8_firstNow_13 (by decide) ?_
    refine wp_iret rfl dX8_firstNow_17 ?_
    rw [show fstA A = (A.2 5 0) from if_pos (by omega)] at k
    exact k
/-- what thinking leaves alone -/
def VMt (i j : Nat) : Prop := VMl i j ∨ VMw i j
theorem VMt.sr {M M' : Mm} (h : Fr VMt M M') (hR : SR M) : SR M' := hR.frL h (by unfold VMt VMl VMs VMw; decide +kernel)
theorem VMl.t : ∀ i j, VMl i j → VMt i j := fun i j h => Or.inl h
theorem VMw.t : ∀ i j, VMw i j → VMt i j := fun i j h => Or.inr h
theorem VMb.t : ∀ i j, VMb i j → VMt i j := fun i j h => Or.inl (VMb.l i j h)
theorem tick_r {A : Ls} (h : Wf A) (E : Ev) : -1 ≤ (tickA E A).2 := by
  unfold tickA
  split
  · split
    · have := h.2.2.2.2.1 0 (by omega)
      show -1 ≤ A.2 5 0
      omega
    · show (-1 : Int) ≤ -1
      omega
  · show (-1 : Int) ≤ -1
    omega
set_option maxRecDepth 20000 in
set_option maxHeartbeats 4000000 in
theorem lp_rnm  {l : Launch} {g : Gw} {d n : Nat} (hn : 90 ≤ n) (hd : 68 ≤ d) {E : Ev} {A0 : Ls} {x w : Int} {N : Nat} (hN : x = (N : Int)) (hN6 : N ≤ 60) (hw : w = 0 ∨ w = 1 ∨ (10 ≤ w ∧ w ≤ 14)) : ∀ (m q : Nat) (A : Ls) (c : Int) (M : Mm) (Q : Option Wd → Mm → Prop), q + m = N → MJ M A E → SLa A0 A → (∀ M', MJ M' (rnA E (w - 10) m q A c).1 E → SLa A0 (rnA E (w - 10) m q A c).1 → Fr VMl M M' → Wp l g d 0 0 n m_X8_run 95 [] [(2, 69), (0, x), (0, w), (0, (rnA E (w - 10) m q A c).2), (0, (N : Int))] M' Q) → Wp l g d 0 0 n m_X8_run 59 [] [(2, 69), (0, x), (0, w), (0, c), (0, (q : Int))] M Q := by
  intro m
  induction m with
  | zero =>
    intro q A c M Q hm hI hS k
    obtain ⟨hR, hA, hW, hr, hX⟩ := id hI
    have w2 := hW.1
    have w5 := hW.2.1
    have w3 := hW.2.2.1
    have w32 := hW.2.2.2.1
    have eq : (q : Int) = (N : Int) := by omega
    rw [eq]
    refine wp_iload dX8_run_59 rfl ?_
    refine wp_iload_n dX8_run_61 rfl rfl ?_
    refine wp_icmp_ge (tgt := 95) dX8_run_62 (by decide) (fun _ => ?_) (fun h => absurd h (by omega))
    exact k M hI hS Fr.rf
  | succ m ih =>
    intro q A c M Q hm hI hS k
    obtain ⟨hR, hA, hW, hr, hX⟩ := id hI
    have w2 := hW.1
    have w5 := hW.2.1
    have w3 := hW.2.2.1
    have w32 := hW.2.2.2.1
    refine wp_iload dX8_run_59 rfl ?_
    refine wp_iload_n dX8_run_61 rfl rfl ?_
    refine wp_icmp_ge (tgt := 95) dX8_run_62 (by decide) (fun h => absurd h (by omega)) (fun _ => ?_)
    refine wp_aload_n dX8_run_65 rfl rfl ?_
    refine wp_callV0 (d' := d - 1) cv_RX8_368 69 rfl [] [] rfl rfl (Or.inl ⟨_, _, rfl, by decide, rfl, by omega, by omega⟩) (by omega) (Nat.le_of_ble_eq_true rfl) dX8_run_66 rfl (Nat.le_of_ble_eq_true rfl) (by omega) (loc1 := [(2, 69), (9, 0), (9, 0), (9, 0)]) rfl ?_
    refine sp_tkm hn hI (by omega) (fun M1 I1 F1 => ?_)
    refine wp_iload_n dX8_run_69 rfl rfl ?_
    refine wp_bipush dX8_run_70 (by decide) (by decide) ?_
    refine wp_isub dX8_run_72 (by omega) ?_
    refine wp_icmp_ne (tgt := 87) dX8_run_73 (by decide) (fun h73 => ?_) (fun h73 => ?_)
    · refine wp_iload_n dX8_run_87 rfl rfl ?_
      refine wp_istore_n (loc' := [(2, 69), (0, x), (0, w), (0, c), (0, (q : Int))]) dX8_run_88 rfl (Nat.le_of_ble_eq_true rfl) rfl ?_
      refine wp_iinc (loc' := [(2, 69), (0, x), (0, w), (0, c), (0, ((q : Int) + 1))]) dX8_run_89 rfl (by omega) rfl ?_
      refine wp_goto (tgt := 59) dX8_run_92 (by decide) ?_
      have hS1 := hS.tick E
      have e : rnA E (w - 10) (m + 1) q A c = rnA E (w - 10) m (q + 1) (tickA E A).1 (if (tickA E A).2 = w - 10 then (q : Int) else c) := rfl
      rw [e] at k
      rw [if_neg h73] at k
      exact ih (q + 1) (tickA E A).1 _ M1 Q (by omega) I1 hS1 (fun M2 I2 S2 F2 => k M2 I2 S2 (F1.tr F2))
    · refine wp_iload_n dX8_run_76 rfl rfl ?_
      refine wp_bipush dX8_run_77 (by decide) (by decide) ?_
      refine wp_icmp_le (tgt := 87) dX8_run_79 (by decide) (fun h79 => ?_) (fun h79 => ?_)
      · refine wp_iload_n dX8_run_87 rfl rfl ?_
        refine wp_istore_n (loc' := [(2, 69), (0, x), (0, w), (0, c), (0, (q : Int))]) dX8_run_88 rfl (Nat.le_of_ble_eq_true rfl) rfl ?_
        refine wp_iinc (loc' := [(2, 69), (0, x), (0, w), (0, c), (0, ((q : Int) + 1))]) dX8_run_89 rfl (by omega) rfl ?_
        refine wp_goto (tgt := 59) dX8_run_92 (by decide) ?_
        exfalso
        have := tick_r hW E
        omega
      · refine wp_iload dX8_run_82 rfl ?_
        refine wp_goto (tgt := 88) dX8_run_84 (by decide) ?_
        refine wp_istore_n (loc' := [(2, 69), (0, x), (0, w), (0, (q : Int)), (0, (q : Int))]) dX8_run_88 rfl (Nat.le_of_ble_eq_true rfl) rfl ?_
        refine wp_iinc (loc' := [(2, 69), (0, x), (0, w), (0, (q : Int)), (0, ((q : Int) + 1))]) dX8_run_89 rfl (by omega) rfl ?_
        refine wp_goto (tgt := 59) dX8_run_92 (by decide) ?_
        have hS1 := hS.tick E
        have e : rnA E (w - 10) (m + 1) q A c = rnA E (w - 10) m (q + 1) (tickA E A).1 (if (tickA E A).2 = w - 10 then (q : Int) else c) := rfl
        rw [e] at k
        rw [if_pos h73] at k
        exact ih (q + 1) (tickA E A).1 _ M1 Q (by omega) I1 hS1 (fun M2 I2 S2 F2 => k M2 I2 S2 (F1.tr F2))
set_option maxRecDepth 20000 in
set_option maxHeartbeats 4000000 in
theorem cm_run {l : Launch} {g : Gw} {d n : Nat} {M : Mm} {Q : Option Wd → Mm → Prop} (hn : 90 ≤ n) {A : Ls} {E : Ev} (hI : MJ M A E) (hd : 70 ≤ d) (x w : Int) (hw : -2147483648 ≤ w ∧ w < 2147483648) (kB : ¬ okRun A x w → Q (some (0, -2)) M) (k : okRun A x w → ∀ M', MJ M' A E → Fr VMt M M' → Q (some (0, runA E A x w)) M') : Wp l g d 0 0 n m_X8_run 0 [] [(2, 69), (0, x), (0, w), (9, 0), (9, 0)] M Q := by
  obtain ⟨hR, hA, hW, hr, hX⟩ := id hI
  have w2 := hW.1
  have w5 := hW.2.1
  have w3 := hW.2.2.1
  have w32 := hW.2.2.2.1
  refine wp_iload_n dX8_run_0 rfl rfl ?_
  refine wp_i2l dX8_run_1 ?_
  refine wp_lconst (v := 0) dX8_run_2 (by decide) (by decide) ?_
  refine wp_ldc2 (x := 60) dX8_run_3 kl_RX8_244 (by decide) (wr_l (by omega)) ?_
  refine wp_callS0 (d' := d - 1) cs_RX8_91 [(1, x), (1, 0), (1, 60)] [] rfl rfl (Nat.le_of_ble_eq_true rfl) dX8_run_6 rfl (Nat.le_of_ble_eq_true rfl) (by omega) (loc1 := [(1, x), (9, 0), (1, 0), (9, 0), (1, 60), (9, 0)]) rfl ?_
  refine sp_in x 0 60 (fun i6 => ?_) (fun i6 => ?_)
  · refine wp_if_eq (tgt := 47) dX8_run_9 (by decide) (fun h => absurd h (by decide)) (fun _ => ?_)
    refine wp_iload_n dX8_run_12 rfl rfl ?_
    refine wp_i2l dX8_run_13 ?_
    refine wp_lconst (v := 0) dX8_run_14 (by decide) (by decide) ?_
    refine wp_lconst (v := 1) dX8_run_15 (by decide) (by decide) ?_
    refine wp_callS0 (d' := d - 1) cs_RX8_91 [(1, w), (1, 0), (1, 1)] [] rfl rfl (Nat.le_of_ble_eq_true rfl) dX8_run_16 rfl (Nat.le_of_ble_eq_true rfl) (by omega) (loc1 := [(1, w), (9, 0), (1, 0), (9, 0), (1, 1), (9, 0)]) rfl ?_
    refine sp_in w 0 1 (fun i16 => ?_) (fun i16 => ?_)
    · refine wp_if_ne (tgt := 50) dX8_run_19 (by decide) (fun _ => ?_) (fun h => absurd h (by decide))
      refine wp_aload_n dX8_run_50 rfl rfl ?_
      refine wp_callV0 (d' := d - 1) cv_RX8_430 69 rfl [] [] rfl rfl (Or.inl ⟨_, _, rfl, by decide, rfl, by omega, by omega⟩) (by omega) (Nat.le_of_ble_eq_true rfl) dX8_run_51 rfl (Nat.le_of_ble_eq_true rfl) (by omega) (loc1 := [(2, 69), (9, 0)]) rfl ?_
      refine sp_asd hn hI (fun M1 I1 S1 F1 => ?_)
      refine wp_iconst dX8_run_54 (by decide) ?_
      refine wp_istore_n (loc' := [(2, 69), (0, x), (0, w), (0, (-1)), (9, 0)]) dX8_run_55 rfl (Nat.le_of_ble_eq_true rfl) rfl ?_
      refine wp_iconst dX8_run_56 (by decide) ?_
      refine wp_istore (loc' := [(2, 69), (0, x), (0, w), (0, (-1)), (0, 0)]) dX8_run_57 (Nat.le_of_ble_eq_true rfl) rfl ?_
      obtain ⟨N, hN⟩ := Int.eq_ofNat_of_zero_le (show 0 ≤ x by omega)
      refine lp_rnm hn (by omega) hN (by omega) (by omega) N 0 A (-1) M1 Q (by omega) I1 SLa.rf (fun M2 I2 L2 F2 => ?_)
      have B2 := S1.fr F2 VMl.nw
      obtain ⟨R2, A2, W2, _, _⟩ := id I2
      refine wp_iload_n dX8_run_95 rfl rfl ?_
      refine wp_if_ne (tgt := 106) dX8_run_96 (by decide) (fun h96 => ?_) (fun h96 => ?_)
      · refine wp_iload_n dX8_run_106 rfl rfl ?_
        refine wp_iconst dX8_run_107 (by decide) ?_
        refine wp_icmp_ne (tgt := 118) dX8_run_108 (by decide) (fun h108 => ?_) (fun h108 => ?_)
        · refine wp_iload_n dX8_run_118 rfl rfl ?_
          refine wp_istore (loc' := [(2, 69), (0, x), (0, w), (0, (rnA E (w - 10) N 0 A (-1)).2), (0, (rnA E (w - 10) N 0 A (-1)).2)]) dX8_run_119 (Nat.le_of_ble_eq_true rfl) rfl ?_
          refine wp_aload_n dX8_run_121 rfl rfl ?_
          refine wp_callV0 (d' := d - 1) cv_RX8_436 69 rfl [] [] rfl rfl (Or.inl ⟨_, _, rfl, by decide, rfl, by omega, by omega⟩) (by omega) (Nat.le_of_ble_eq_true rfl) dX8_run_122 rfl (Nat.le_of_ble_eq_true rfl) (by omega) (loc1 := [(2, 69), (9, 0)]) rfl ?_
          refine sp_bck hn I2 L2 hW B2 (fun M3 I3 F3 => ?_)
          refine wp_iload dX8_run_125 rfl ?_
          refine wp_iret rfl dX8_run_127 ?_
          have q0 := k (by unfold okRun; omega) M3 I3 ((F1.mono VMw.t).tr ((F2.mono VMl.t).tr (F3.mono VMb.t)))
          unfold runA at q0
          rw [show x.toNat = N by omega] at q0
          rw [if_neg h96, if_neg h108] at q0
          exact q0
        · refine wp_aload_n dX8_run_111 rfl rfl ?_
          refine wp_callV0 (d' := d - 1) cv_RX8_433 69 rfl [] [] rfl rfl (Or.inl ⟨_, _, rfl, by decide, rfl, by omega, by omega⟩) (by omega) (Nat.le_of_ble_eq_true rfl) dX8_run_112 rfl (Nat.le_of_ble_eq_true rfl) (by omega) (loc1 := [(2, 69)]) rfl ?_
          refine sp_fnm hn I2 ?_
          refine wp_goto (tgt := 119) dX8_run_115 (by decide) ?_
          refine wp_istore (loc' := [(2, 69), (0, x), (0, w), (0, (rnA E (w - 10) N 0 A (-1)).2), (0, (fstA (rnA E (w - 10) N 0 A (-1)).1))]) dX8_run_119 (Nat.le_of_ble_eq_true rfl) rfl ?_
          refine wp_aload_n dX8_run_121 rfl rfl ?_
          refine wp_callV0 (d' := d - 1) cv_RX8_436 69 rfl [] [] rfl rfl (Or.inl ⟨_, _, rfl, by decide, rfl, by omega, by omega⟩) (by omega) (Nat.le_of_ble_eq_true rfl) dX8_run_122 rfl (Nat.le_of_ble_eq_true rfl) (by omega) (loc1 := [(2, 69), (9, 0)]) rfl ?_
          refine sp_bck hn I2 L2 hW B2 (fun M3 I3 F3 => ?_)
          refine wp_iload dX8_run_125 rfl ?_
          refine wp_iret rfl dX8_run_127 ?_
          have q0 := k (by unfold okRun; omega) M3 I3 ((F1.mono VMw.t).tr ((F2.mono VMl.t).tr (F3.mono VMb.t)))
          unfold runA at q0
          rw [show x.toNat = N by omega] at q0
          rw [if_neg h96, if_pos h108] at q0
          exact q0
      · refine wp_aload_n dX8_run_99 rfl rfl ?_
        refine wp_get 69 rfl fl_RX8_123 rfl ⟨by omega, by omega⟩ dX8_run_100 rfl (v := ((rnA E (w - 10) N 0 A (-1)).1.1 3)) (A2.2.2.2.1) ?_
        refine wp_goto (tgt := 119) dX8_run_103 (by decide) ?_
        refine wp_istore (loc' := [(2, 69), (0, x), (0, w), (0, (rnA E (w - 10) N 0 A (-1)).2), (0, ((rnA E (w - 10) N 0 A (-1)).1.1 3))]) dX8_run_119 (Nat.le_of_ble_eq_true rfl) rfl ?_
        refine wp_aload_n dX8_run_121 rfl rfl ?_
        refine wp_callV0 (d' := d - 1) cv_RX8_436 69 rfl [] [] rfl rfl (Or.inl ⟨_, _, rfl, by decide, rfl, by omega, by omega⟩) (by omega) (Nat.le_of_ble_eq_true rfl) dX8_run_122 rfl (Nat.le_of_ble_eq_true rfl) (by omega) (loc1 := [(2, 69), (9, 0)]) rfl ?_
        refine sp_bck hn I2 L2 hW B2 (fun M3 I3 F3 => ?_)
        refine wp_iload dX8_run_125 rfl ?_
        refine wp_iret rfl dX8_run_127 ?_
        have q0 := k (by unfold okRun; omega) M3 I3 ((F1.mono VMw.t).tr ((F2.mono VMl.t).tr (F3.mono VMb.t)))
        unfold runA at q0
        rw [show x.toNat = N by omega] at q0
        rw [if_pos h96] at q0
        exact q0
    · refine wp_if_ne (tgt := 50) dX8_run_19 (by decide) (fun h => absurd h (by decide)) (fun _ => ?_)
      refine wp_iload_n dX8_run_22 rfl rfl ?_
      refine wp_i2l dX8_run_23 ?_
      refine wp_ldc2 (x := 10) dX8_run_24 kl_RX8_179 (by decide) (wr_l (by omega)) ?_
      refine wp_ldc2 (x := 14) dX8_run_27 kl_RX8_126 (by decide) (wr_l (by omega)) ?_
      refine wp_callS0 (d' := d - 1) cs_RX8_91 [(1, w), (1, 10), (1, 14)] [] rfl rfl (Nat.le_of_ble_eq_true rfl) dX8_run_30 rfl (Nat.le_of_ble_eq_true rfl) (by omega) (loc1 := [(1, w), (9, 0), (1, 10), (9, 0), (1, 14), (9, 0)]) rfl ?_
      refine sp_in w 10 14 (fun i30 => ?_) (fun i30 => ?_)
      · refine wp_if_eq (tgt := 47) dX8_run_33 (by decide) (fun h => absurd h (by decide)) (fun _ => ?_)
        refine wp_aload_n dX8_run_36 rfl rfl ?_
        refine wp_iload_n dX8_run_37 rfl rfl ?_
        refine wp_bipush dX8_run_38 (by decide) (by decide) ?_
        refine wp_isub dX8_run_40 (by omega) ?_
        refine wp_callV0 (d' := d - 1) cv_RX8_97 69 rfl [(0, (w - 10))] [] rfl rfl (Or.inl ⟨_, _, rfl, by decide, rfl, by omega, by omega⟩) (by omega) (Nat.le_of_ble_eq_true rfl) dX8_run_41 rfl (Nat.le_of_ble_eq_true rfl) (by omega) (loc1 := [(2, 69), (0, (w - 10))]) rfl ?_
        refine sp_isOne hn hI (by omega) (w - 10) (fun o41 => ?_) (fun o41 => ?_)
        · refine wp_if_ne (tgt := 50) dX8_run_44 (by decide) (fun _ => ?_) (fun h => absurd h (by decide))
          refine wp_aload_n dX8_run_50 rfl rfl ?_
          refine wp_callV0 (d' := d - 1) cv_RX8_430 69 rfl [] [] rfl rfl (Or.inl ⟨_, _, rfl, by decide, rfl, by omega, by omega⟩) (by omega) (Nat.le_of_ble_eq_true rfl) dX8_run_51 rfl (Nat.le_of_ble_eq_true rfl) (by omega) (loc1 := [(2, 69), (9, 0)]) rfl ?_
          refine sp_asd hn hI (fun M1 I1 S1 F1 => ?_)
          refine wp_iconst dX8_run_54 (by decide) ?_
          refine wp_istore_n (loc' := [(2, 69), (0, x), (0, w), (0, (-1)), (9, 0)]) dX8_run_55 rfl (Nat.le_of_ble_eq_true rfl) rfl ?_
          refine wp_iconst dX8_run_56 (by decide) ?_
          refine wp_istore (loc' := [(2, 69), (0, x), (0, w), (0, (-1)), (0, 0)]) dX8_run_57 (Nat.le_of_ble_eq_true rfl) rfl ?_
          obtain ⟨N, hN⟩ := Int.eq_ofNat_of_zero_le (show 0 ≤ x by omega)
          refine lp_rnm hn (by omega) hN (by omega) (by omega) N 0 A (-1) M1 Q (by omega) I1 SLa.rf (fun M2 I2 L2 F2 => ?_)
          have B2 := S1.fr F2 VMl.nw
          obtain ⟨R2, A2, W2, _, _⟩ := id I2
          refine wp_iload_n dX8_run_95 rfl rfl ?_
          refine wp_if_ne (tgt := 106) dX8_run_96 (by decide) (fun h96 => ?_) (fun h96 => ?_)
          · refine wp_iload_n dX8_run_106 rfl rfl ?_
            refine wp_iconst dX8_run_107 (by decide) ?_
            refine wp_icmp_ne (tgt := 118) dX8_run_108 (by decide) (fun h108 => ?_) (fun h108 => ?_)
            · refine wp_iload_n dX8_run_118 rfl rfl ?_
              refine wp_istore (loc' := [(2, 69), (0, x), (0, w), (0, (rnA E (w - 10) N 0 A (-1)).2), (0, (rnA E (w - 10) N 0 A (-1)).2)]) dX8_run_119 (Nat.le_of_ble_eq_true rfl) rfl ?_
              refine wp_aload_n dX8_run_121 rfl rfl ?_
              refine wp_callV0 (d' := d - 1) cv_RX8_436 69 rfl [] [] rfl rfl (Or.inl ⟨_, _, rfl, by decide, rfl, by omega, by omega⟩) (by omega) (Nat.le_of_ble_eq_true rfl) dX8_run_122 rfl (Nat.le_of_ble_eq_true rfl) (by omega) (loc1 := [(2, 69), (9, 0)]) rfl ?_
              refine sp_bck hn I2 L2 hW B2 (fun M3 I3 F3 => ?_)
              refine wp_iload dX8_run_125 rfl ?_
              refine wp_iret rfl dX8_run_127 ?_
              have q0 := k (by unfold okRun; omega) M3 I3 ((F1.mono VMw.t).tr ((F2.mono VMl.t).tr (F3.mono VMb.t)))
              unfold runA at q0
              rw [show x.toNat = N by omega] at q0
              rw [if_neg h96, if_neg h108] at q0
              exact q0
            · refine wp_aload_n dX8_run_111 rfl rfl ?_
              refine wp_callV0 (d' := d - 1) cv_RX8_433 69 rfl [] [] rfl rfl (Or.inl ⟨_, _, rfl, by decide, rfl, by omega, by omega⟩) (by omega) (Nat.le_of_ble_eq_true rfl) dX8_run_112 rfl (Nat.le_of_ble_eq_true rfl) (by omega) (loc1 := [(2, 69)]) rfl ?_
              refine sp_fnm hn I2 ?_
              refine wp_goto (tgt := 119) dX8_run_115 (by decide) ?_
              refine wp_istore (loc' := [(2, 69), (0, x), (0, w), (0, (rnA E (w - 10) N 0 A (-1)).2), (0, (fstA (rnA E (w - 10) N 0 A (-1)).1))]) dX8_run_119 (Nat.le_of_ble_eq_true rfl) rfl ?_
              refine wp_aload_n dX8_run_121 rfl rfl ?_
              refine wp_callV0 (d' := d - 1) cv_RX8_436 69 rfl [] [] rfl rfl (Or.inl ⟨_, _, rfl, by decide, rfl, by omega, by omega⟩) (by omega) (Nat.le_of_ble_eq_true rfl) dX8_run_122 rfl (Nat.le_of_ble_eq_true rfl) (by omega) (loc1 := [(2, 69), (9, 0)]) rfl ?_
              refine sp_bck hn I2 L2 hW B2 (fun M3 I3 F3 => ?_)
              refine wp_iload dX8_run_125 rfl ?_
              refine wp_iret rfl dX8_run_127 ?_
              have q0 := k (by unfold okRun; omega) M3 I3 ((F1.mono VMw.t).tr ((F2.mono VMl.t).tr (F3.mono VMb.t)))
              unfold runA at q0
              rw [show x.toNat = N by omega] at q0
              rw [if_neg h96, if_pos h108] at q0
              exact q0
          · refine wp_aload_n dX8_run_99 rfl rfl ?_
            refine wp_get 69 rfl fl_RX8_123 rfl ⟨by omega, by omega⟩ dX8_run_100 rfl (v := ((rnA E (w - 10) N 0 A (-1)).1.1 3)) (A2.2.2.2.1) ?_
            refine wp_goto (tgt := 119) dX8_run_103 (by decide) ?_
            refine wp_istore (loc' := [(2, 69), (0, x), (0, w), (0, (rnA E (w - 10) N 0 A (-1)).2), (0, ((rnA E (w - 10) N 0 A (-1)).1.1 3))]) dX8_run_119 (Nat.le_of_ble_eq_true rfl) rfl ?_
            refine wp_aload_n dX8_run_121 rfl rfl ?_
            refine wp_callV0 (d' := d - 1) cv_RX8_436 69 rfl [] [] rfl rfl (Or.inl ⟨_, _, rfl, by decide, rfl, by omega, by omega⟩) (by omega) (Nat.le_of_ble_eq_true rfl) dX8_run_122 rfl (Nat.le_of_ble_eq_true rfl) (by omega) (loc1 := [(2, 69), (9, 0)]) rfl ?_
            refine sp_bck hn I2 L2 hW B2 (fun M3 I3 F3 => ?_)
            refine wp_iload dX8_run_125 rfl ?_
            refine wp_iret rfl dX8_run_127 ?_
            have q0 := k (by unfold okRun; omega) M3 I3 ((F1.mono VMw.t).tr ((F2.mono VMl.t).tr (F3.mono VMb.t)))
            unfold runA at q0
            rw [show x.toNat = N by omega] at q0
            rw [if_pos h96] at q0
            exact q0
        · refine wp_if_ne (tgt := 50) dX8_run_44 (by decide) (fun h => absurd h (by decide)) (fun _ => ?_)
          refine wp_bipush dX8_run_47 (by decide) (by decide) ?_
          refine wp_iret rfl dX8_run_49 ?_
          exact kB (fun h => by unfold okRun at h; omega)
      · refine wp_if_eq (tgt := 47) dX8_run_33 (by decide) (fun _ => ?_) (fun h => absurd h (by decide))
        refine wp_bipush dX8_run_47 (by decide) (by decide) ?_
        refine wp_iret rfl dX8_run_49 ?_
        exact kB (fun h => by unfold okRun at h; omega)
  · refine wp_if_eq (tgt := 47) dX8_run_9 (by decide) (fun _ => ?_) (fun h => absurd h (by decide))
    refine wp_bipush dX8_run_47 (by decide) (by decide) ?_
    refine wp_iret rfl dX8_run_49 ?_
    exact kB (fun h => by unfold okRun at h; omega)
