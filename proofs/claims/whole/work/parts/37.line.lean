/-! ===== how a line goes ===== -/
/-- places p and p - 1 changed -/
def swapA (A : Ls) (p : Nat) : Ls := (A.1, mu (mu A.2 5 p (A.2 5 (p - 1))) 5 (p - 1) (A.2 5 p))
abbrev cpA (E : Ev) (A : Ls) (p : Int) : Prop := 1 ≤ p ∧ p < A.1 3 ∧ ¬ (p = 1 ∧ 0 < A.2 4 (A.2 5 0).toNat) ∧ mindsA E A (A.2 5 (p - 1).toNat) (A.2 5 p.toNat) = false
def dropA (A : Ls) : Ls := (fun k => if k = 3 then A.1 3 - 1 else A.1 k, fun r i => if r = 5 then A.2 5 (i + 1) else A.2 r i)
def serveA (A : Ls) (p : Nat) : Ls := (A.1, mu A.2 4 p (wrap (A.2 4 p + 1)))
def minA (A : Ls) : Ls := (fun k => if k = 0 then wrap (A.1 0 + 1) else A.1 k, A.2)
def tickA (E : Ev) (A : Ls) : Ls × Int := if 0 < A.1 3 then (if lastsA E A (A.2 5 0) ≤ wrap (A.2 4 (A.2 5 0).toNat + 1) then (minA (dropA (serveA A (A.2 5 0).toNat)), A.2 5 0) else (minA (serveA A (A.2 5 0).toNat), -1)) else (minA A, -1)
def VL (L i j : Nat) : Prop := i = L + 6 ∨ (i = L ∧ j = 3)
def VG (L i j : Nat) : Prop := VX i j ∨ (i = L ∧ (j = 0 ∨ j = 3)) ∨ i = L + 5 ∨ i = L + 6
theorem SR.frL {M M' : Mm} {V : Nat → Nat → Prop} (hR : SR M) (f : Fr V M M') (h : ∀ q ∈ srL, ¬ V q.1 q.2.1) : SR M' := hR.of (fun q hq => f _ _ (h q hq))
set_option maxRecDepth 20000 in
set_option maxHeartbeats 4000000 in
theorem sp_dropFirst_2 {l : Launch} {g : Gw} {d n : Nat} {M : Mm} {Q : Option Wd → Mm → Prop} (hn : 60 ≤ n) (hR : SR M) (h1 : 1 ≤ M 2 3) (h55 : M 2 3 ≤ 5) (k : ∀ M', Fr (VL 2) M M' → M' 2 3 = M 2 3 - 1 → (∀ q : Nat, (q : Int) + 1 < M 2 3 → M' 8 q = M 8 (q + 1)) → Q none M') : Wp l g d 0 0 n m_X0_dropFirst 0 [] [(2, 2), (9, 0)] M Q := by
  obtain ⟨n5, h5⟩ : ∃ k : Nat, M 2 3 = (k : Int) := ⟨(M 2 3).toNat, by omega⟩
  rcases (show n5 = 1 ∨ n5 = 2 ∨ n5 = 3 ∨ n5 = 4 ∨ n5 = 5 by omega) with rfl | rfl | rfl | rfl | rfl
  · refine wp_aload_n dX0_dropFirst_0 rfl rfl ?_
    refine wp_get 2 rfl fl_RX0_40 rfl ⟨by omega, by omega⟩ dX0_dropFirst_1 rfl (v := 1) (h5) ?_
    refine wp_if_gt (tgt := 8) dX0_dropFirst_4 (by decide) (fun _ => ?_) (fun h => absurd h (by decide))
    refine wp_iconst dX0_dropFirst_8 (by decide) ?_
    refine wp_istore_n (loc' := [(2, 2), (0, 1)]) dX0_dropFirst_9 rfl (Nat.le_of_ble_eq_true rfl) rfl ?_
    refine wp_iload_n dX0_dropFirst_10 rfl rfl ?_
    refine wp_aload_n dX0_dropFirst_11 rfl rfl ?_
    refine wp_get 2 rfl fl_RX0_40 rfl ⟨by omega, by omega⟩ dX0_dropFirst_12 rfl (v := 1) (h5) ?_
    refine wp_icmp_ge (tgt := 43) dX0_dropFirst_15 (by decide) (fun _ => ?_) (fun h => absurd h (by decide))
    refine wp_aload_n dX0_dropFirst_43 rfl rfl ?_
    refine wp_dup dX0_dropFirst_44 (Or.inr rfl) ?_
    refine wp_get 2 rfl fl_RX0_40 rfl ⟨by omega, by omega⟩ dX0_dropFirst_45 rfl (v := 1) (h5) ?_
    refine wp_iconst dX0_dropFirst_48 (by decide) ?_
    refine wp_isub dX0_dropFirst_49 (by omega) ?_
    refine wp_puti 2 rfl fl_RX0_40 rfl ⟨by omega, by omega⟩ dX0_dropFirst_50 rfl rfl ?_
    refine wp_vret rfl dX0_dropFirst_53 ?_
    refine k _ (Fr.put Fr.rf (Or.inr ⟨rfl, rfl⟩)) ?_ ?_
    · show 1 - 1 = M 2 3 - 1
      omega
    · intro q hq
      rcases (show q = 0 by omega) with rfl
      · omega
  · refine wp_aload_n dX0_dropFirst_0 rfl rfl ?_
    refine wp_get 2 rfl fl_RX0_40 rfl ⟨by omega, by omega⟩ dX0_dropFirst_1 rfl (v := 2) (h5) ?_
    refine wp_if_gt (tgt := 8) dX0_dropFirst_4 (by decide) (fun _ => ?_) (fun h => absurd h (by decide))
    refine wp_iconst dX0_dropFirst_8 (by decide) ?_
    refine wp_istore_n (loc' := [(2, 2), (0, 1)]) dX0_dropFirst_9 rfl (Nat.le_of_ble_eq_true rfl) rfl ?_
    refine wp_iload_n dX0_dropFirst_10 rfl rfl ?_
    refine wp_aload_n dX0_dropFirst_11 rfl rfl ?_
    refine wp_get 2 rfl fl_RX0_40 rfl ⟨by omega, by omega⟩ dX0_dropFirst_12 rfl (v := 2) (h5) ?_
    refine wp_icmp_ge (tgt := 43) dX0_dropFirst_15 (by decide) (fun h => absurd h (by decide)) (fun _ => ?_)
    refine wp_iload_n dX0_dropFirst_18 rfl rfl ?_
    refine wp_iconst dX0_dropFirst_19 (by decide) ?_
    refine wp_icmp_ge (tgt := 43) dX0_dropFirst_20 (by decide) (fun h => absurd h (by decide)) (fun _ => ?_)
    refine wp_aload_n dX0_dropFirst_23 rfl rfl ?_
    refine wp_get 2 rfl fl_RX0_27 rfl ⟨by omega, by omega⟩ dX0_dropFirst_24 rfl (v := 8) (sr_2_9 (M := M) hR) ?_
    refine wp_iload_n dX0_dropFirst_27 rfl rfl ?_
    refine wp_iconst dX0_dropFirst_28 (by decide) ?_
    refine wp_isub dX0_dropFirst_29 (by omega) ?_
    refine wp_aload_n dX0_dropFirst_30 rfl rfl ?_
    refine wp_get 2 rfl fl_RX0_27 rfl ⟨by omega, by omega⟩ dX0_dropFirst_31 rfl (v := 8) (sr_2_9 (M := M) hR) ?_
    refine wp_iload_n dX0_dropFirst_34 rfl rfl ?_
    refine wp_iald 8 rfl rfl ⟨by omega, by omega⟩ ⟨by omega, by omega⟩ dX0_dropFirst_35 (v := (M 8 1)) (rfl) ?_
    refine wp_iast 8 rfl rfl ⟨by omega, by omega⟩ ⟨by omega, by omega⟩ dX0_dropFirst_36 (jn := 0) rfl ?_
    refine wp_iinc (loc' := [(2, 2), (0, 2)]) dX0_dropFirst_37 rfl (by omega) rfl ?_
    refine wp_goto (tgt := 10) dX0_dropFirst_40 (by decide) ?_
    refine wp_iload_n dX0_dropFirst_10 rfl rfl ?_
    refine wp_aload_n dX0_dropFirst_11 rfl rfl ?_
    refine wp_get 2 rfl fl_RX0_40 rfl ⟨by omega, by omega⟩ dX0_dropFirst_12 rfl (v := 2) (h5) ?_
    refine wp_icmp_ge (tgt := 43) dX0_dropFirst_15 (by decide) (fun _ => ?_) (fun h => absurd h (by decide))
    refine wp_aload_n dX0_dropFirst_43 rfl rfl ?_
    refine wp_dup dX0_dropFirst_44 (Or.inr rfl) ?_
    refine wp_get 2 rfl fl_RX0_40 rfl ⟨by omega, by omega⟩ dX0_dropFirst_45 rfl (v := 2) (h5) ?_
    refine wp_iconst dX0_dropFirst_48 (by decide) ?_
    refine wp_isub dX0_dropFirst_49 (by omega) ?_
    refine wp_puti 2 rfl fl_RX0_40 rfl ⟨by omega, by omega⟩ dX0_dropFirst_50 rfl rfl ?_
    refine wp_vret rfl dX0_dropFirst_53 ?_
    refine k _ (Fr.put (Fr.put Fr.rf (Or.inl rfl)) (Or.inr ⟨rfl, rfl⟩)) ?_ ?_
    · show 2 - 1 = M 2 3 - 1
      omega
    · intro q hq
      rcases (show q = 0 by omega) with rfl
      · rfl
  · refine wp_aload_n dX0_dropFirst_0 rfl rfl ?_
    refine wp_get 2 rfl fl_RX0_40 rfl ⟨by omega, by omega⟩ dX0_dropFirst_1 rfl (v := 3) (h5) ?_
    refine wp_if_gt (tgt := 8) dX0_dropFirst_4 (by decide) (fun _ => ?_) (fun h => absurd h (by decide))
    refine wp_iconst dX0_dropFirst_8 (by decide) ?_
    refine wp_istore_n (loc' := [(2, 2), (0, 1)]) dX0_dropFirst_9 rfl (Nat.le_of_ble_eq_true rfl) rfl ?_
    refine wp_iload_n dX0_dropFirst_10 rfl rfl ?_
    refine wp_aload_n dX0_dropFirst_11 rfl rfl ?_
    refine wp_get 2 rfl fl_RX0_40 rfl ⟨by omega, by omega⟩ dX0_dropFirst_12 rfl (v := 3) (h5) ?_
    refine wp_icmp_ge (tgt := 43) dX0_dropFirst_15 (by decide) (fun h => absurd h (by decide)) (fun _ => ?_)
    refine wp_iload_n dX0_dropFirst_18 rfl rfl ?_
    refine wp_iconst dX0_dropFirst_19 (by decide) ?_
    refine wp_icmp_ge (tgt := 43) dX0_dropFirst_20 (by decide) (fun h => absurd h (by decide)) (fun _ => ?_)
    refine wp_aload_n dX0_dropFirst_23 rfl rfl ?_
    refine wp_get 2 rfl fl_RX0_27 rfl ⟨by omega, by omega⟩ dX0_dropFirst_24 rfl (v := 8) (sr_2_9 (M := M) hR) ?_
    refine wp_iload_n dX0_dropFirst_27 rfl rfl ?_
    refine wp_iconst dX0_dropFirst_28 (by decide) ?_
    refine wp_isub dX0_dropFirst_29 (by omega) ?_
    refine wp_aload_n dX0_dropFirst_30 rfl rfl ?_
    refine wp_get 2 rfl fl_RX0_27 rfl ⟨by omega, by omega⟩ dX0_dropFirst_31 rfl (v := 8) (sr_2_9 (M := M) hR) ?_
    refine wp_iload_n dX0_dropFirst_34 rfl rfl ?_
    refine wp_iald 8 rfl rfl ⟨by omega, by omega⟩ ⟨by omega, by omega⟩ dX0_dropFirst_35 (v := (M 8 1)) (rfl) ?_
    refine wp_iast 8 rfl rfl ⟨by omega, by omega⟩ ⟨by omega, by omega⟩ dX0_dropFirst_36 (jn := 0) rfl ?_
    refine wp_iinc (loc' := [(2, 2), (0, 2)]) dX0_dropFirst_37 rfl (by omega) rfl ?_
    refine wp_goto (tgt := 10) dX0_dropFirst_40 (by decide) ?_
    refine wp_iload_n dX0_dropFirst_10 rfl rfl ?_
    refine wp_aload_n dX0_dropFirst_11 rfl rfl ?_
    refine wp_get 2 rfl fl_RX0_40 rfl ⟨by omega, by omega⟩ dX0_dropFirst_12 rfl (v := 3) (h5) ?_
    refine wp_icmp_ge (tgt := 43) dX0_dropFirst_15 (by decide) (fun h => absurd h (by decide)) (fun _ => ?_)
    refine wp_iload_n dX0_dropFirst_18 rfl rfl ?_
    refine wp_iconst dX0_dropFirst_19 (by decide) ?_
    refine wp_icmp_ge (tgt := 43) dX0_dropFirst_20 (by decide) (fun h => absurd h (by decide)) (fun _ => ?_)
    refine wp_aload_n dX0_dropFirst_23 rfl rfl ?_
    refine wp_get 2 rfl fl_RX0_27 rfl ⟨by omega, by omega⟩ dX0_dropFirst_24 rfl (v := 8) (sr_2_9 (M := M) hR) ?_
    refine wp_iload_n dX0_dropFirst_27 rfl rfl ?_
    refine wp_iconst dX0_dropFirst_28 (by decide) ?_
    refine wp_isub dX0_dropFirst_29 (by omega) ?_
    refine wp_aload_n dX0_dropFirst_30 rfl rfl ?_
    refine wp_get 2 rfl fl_RX0_27 rfl ⟨by omega, by omega⟩ dX0_dropFirst_31 rfl (v := 8) (sr_2_9 (M := M) hR) ?_
    refine wp_iload_n dX0_dropFirst_34 rfl rfl ?_
    refine wp_iald 8 rfl rfl ⟨by omega, by omega⟩ ⟨by omega, by omega⟩ dX0_dropFirst_35 (v := (M 8 2)) (rfl) ?_
    refine wp_iast 8 rfl rfl ⟨by omega, by omega⟩ ⟨by omega, by omega⟩ dX0_dropFirst_36 (jn := 1) rfl ?_
    refine wp_iinc (loc' := [(2, 2), (0, 3)]) dX0_dropFirst_37 rfl (by omega) rfl ?_
    refine wp_goto (tgt := 10) dX0_dropFirst_40 (by decide) ?_
    refine wp_iload_n dX0_dropFirst_10 rfl rfl ?_
    refine wp_aload_n dX0_dropFirst_11 rfl rfl ?_
    refine wp_get 2 rfl fl_RX0_40 rfl ⟨by omega, by omega⟩ dX0_dropFirst_12 rfl (v := 3) (h5) ?_
    refine wp_icmp_ge (tgt := 43) dX0_dropFirst_15 (by decide) (fun _ => ?_) (fun h => absurd h (by decide))
    refine wp_aload_n dX0_dropFirst_43 rfl rfl ?_
    refine wp_dup dX0_dropFirst_44 (Or.inr rfl) ?_
    refine wp_get 2 rfl fl_RX0_40 rfl ⟨by omega, by omega⟩ dX0_dropFirst_45 rfl (v := 3) (h5) ?_
    refine wp_iconst dX0_dropFirst_48 (by decide) ?_
    refine wp_isub dX0_dropFirst_49 (by omega) ?_
    refine wp_puti 2 rfl fl_RX0_40 rfl ⟨by omega, by omega⟩ dX0_dropFirst_50 rfl rfl ?_
    refine wp_vret rfl dX0_dropFirst_53 ?_
    refine k _ (Fr.put (Fr.put (Fr.put Fr.rf (Or.inl rfl)) (Or.inl rfl)) (Or.inr ⟨rfl, rfl⟩)) ?_ ?_
    · show 3 - 1 = M 2 3 - 1
      omega
    · intro q hq
      rcases (show q = 0 ∨ q = 1 by omega) with rfl | rfl
      · rfl
      · rfl
  · refine wp_aload_n dX0_dropFirst_0 rfl rfl ?_
    refine wp_get 2 rfl fl_RX0_40 rfl ⟨by omega, by omega⟩ dX0_dropFirst_1 rfl (v := 4) (h5) ?_
    refine wp_if_gt (tgt := 8) dX0_dropFirst_4 (by decide) (fun _ => ?_) (fun h => absurd h (by decide))
    refine wp_iconst dX0_dropFirst_8 (by decide) ?_
    refine wp_istore_n (loc' := [(2, 2), (0, 1)]) dX0_dropFirst_9 rfl (Nat.le_of_ble_eq_true rfl) rfl ?_
    refine wp_iload_n dX0_dropFirst_10 rfl rfl ?_
    refine wp_aload_n dX0_dropFirst_11 rfl rfl ?_
    refine wp_get 2 rfl fl_RX0_40 rfl ⟨by omega, by omega⟩ dX0_dropFirst_12 rfl (v := 4) (h5) ?_
    refine wp_icmp_ge (tgt := 43) dX0_dropFirst_15 (by decide) (fun h => absurd h (by decide)) (fun _ => ?_)
    refine wp_iload_n dX0_dropFirst_18 rfl rfl ?_
    refine wp_iconst dX0_dropFirst_19 (by decide) ?_
    refine wp_icmp_ge (tgt := 43) dX0_dropFirst_20 (by decide) (fun h => absurd h (by decide)) (fun _ => ?_)
    refine wp_aload_n dX0_dropFirst_23 rfl rfl ?_
    refine wp_get 2 rfl fl_RX0_27 rfl ⟨by omega, by omega⟩ dX0_dropFirst_24 rfl (v := 8) (sr_2_9 (M := M) hR) ?_
    refine wp_iload_n dX0_dropFirst_27 rfl rfl ?_
    refine wp_iconst dX0_dropFirst_28 (by decide) ?_
    refine wp_isub dX0_dropFirst_29 (by omega) ?_
    refine wp_aload_n dX0_dropFirst_30 rfl rfl ?_
    refine wp_get 2 rfl fl_RX0_27 rfl ⟨by omega, by omega⟩ dX0_dropFirst_31 rfl (v := 8) (sr_2_9 (M := M) hR) ?_
    refine wp_iload_n dX0_dropFirst_34 rfl rfl ?_
    refine wp_iald 8 rfl rfl ⟨by omega, by omega⟩ ⟨by omega, by omega⟩ dX0_dropFirst_35 (v := (M 8 1)) (rfl) ?_
    refine wp_iast 8 rfl rfl ⟨by omega, by omega⟩ ⟨by omega, by omega⟩ dX0_dropFirst_36 (jn := 0) rfl ?_
    refine wp_iinc (loc' := [(2, 2), (0, 2)]) dX0_dropFirst_37 rfl (by omega) rfl ?_
    refine wp_goto (tgt := 10) dX0_dropFirst_40 (by decide) ?_
    refine wp_iload_n dX0_dropFirst_10 rfl rfl ?_
    refine wp_aload_n dX0_dropFirst_11 rfl rfl ?_
    refine wp_get 2 rfl fl_RX0_40 rfl ⟨by omega, by omega⟩ dX0_dropFirst_12 rfl (v := 4) (h5) ?_
    refine wp_icmp_ge (tgt := 43) dX0_dropFirst_15 (by decide) (fun h => absurd h (by decide)) (fun _ => ?_)
    refine wp_iload_n dX0_dropFirst_18 rfl rfl ?_
    refine wp_iconst dX0_dropFirst_19 (by decide) ?_
    refine wp_icmp_ge (tgt := 43) dX0_dropFirst_20 (by decide) (fun h => absurd h (by decide)) (fun _ => ?_)
    refine wp_aload_n dX0_dropFirst_23 rfl rfl ?_
    refine wp_get 2 rfl fl_RX0_27 rfl ⟨by omega, by omega⟩ dX0_dropFirst_24 rfl (v := 8) (sr_2_9 (M := M) hR) ?_
    refine wp_iload_n dX0_dropFirst_27 rfl rfl ?_
    refine wp_iconst dX0_dropFirst_28 (by decide) ?_
    refine wp_isub dX0_dropFirst_29 (by omega) ?_
    refine wp_aload_n dX0_dropFirst_30 rfl rfl ?_
    refine wp_get 2 rfl fl_RX0_27 rfl ⟨by omega, by omega⟩ dX0_dropFirst_31 rfl (v := 8) (sr_2_9 (M := M) hR) ?_
    refine wp_iload_n dX0_dropFirst_34 rfl rfl ?_
    refine wp_iald 8 rfl rfl ⟨by omega, by omega⟩ ⟨by omega, by omega⟩ dX0_dropFirst_35 (v := (M 8 2)) (rfl) ?_
    refine wp_iast 8 rfl rfl ⟨by omega, by omega⟩ ⟨by omega, by omega⟩ dX0_dropFirst_36 (jn := 1) rfl ?_
    refine wp_iinc (loc' := [(2, 2), (0, 3)]) dX0_dropFirst_37 rfl (by omega) rfl ?_
    refine wp_goto (tgt := 10) dX0_dropFirst_40 (by decide) ?_
    refine wp_iload_n dX0_dropFirst_10 rfl rfl ?_
    refine wp_aload_n dX0_dropFirst_11 rfl rfl ?_
    refine wp_get 2 rfl fl_RX0_40 rfl ⟨by omega, by omega⟩ dX0_dropFirst_12 rfl (v := 4) (h5) ?_
    refine wp_icmp_ge (tgt := 43) dX0_dropFirst_15 (by decide) (fun h => absurd h (by decide)) (fun _ => ?_)
    refine wp_iload_n dX0_dropFirst_18 rfl rfl ?_
    refine wp_iconst dX0_dropFirst_19 (by decide) ?_
    refine wp_icmp_ge (tgt := 43) dX0_dropFirst_20 (by decide) (fun h => absurd h (by decide)) (fun _ => ?_)
    refine wp_aload_n dX0_dropFirst_23 rfl rfl ?_
    refine wp_get 2 rfl fl_RX0_27 rfl ⟨by omega, by omega⟩ dX0_dropFirst_24 rfl (v := 8) (sr_2_9 (M := M) hR) ?_
    refine wp_iload_n dX0_dropFirst_27 rfl rfl ?_
    refine wp_iconst dX0_dropFirst_28 (by decide) ?_
    refine wp_isub dX0_dropFirst_29 (by omega) ?_
    refine wp_aload_n dX0_dropFirst_30 rfl rfl ?_
    refine wp_get 2 rfl fl_RX0_27 rfl ⟨by omega, by omega⟩ dX0_dropFirst_31 rfl (v := 8) (sr_2_9 (M := M) hR) ?_
    refine wp_iload_n dX0_dropFirst_34 rfl rfl ?_
    refine wp_iald 8 rfl rfl ⟨by omega, by omega⟩ ⟨by omega, by omega⟩ dX0_dropFirst_35 (v := (M 8 3)) (rfl) ?_
    refine wp_iast 8 rfl rfl ⟨by omega, by omega⟩ ⟨by omega, by omega⟩ dX0_dropFirst_36 (jn := 2) rfl ?_
    refine wp_iinc (loc' := [(2, 2), (0, 4)]) dX0_dropFirst_37 rfl (by omega) rfl ?_
    refine wp_goto (tgt := 10) dX0_dropFirst_40 (by decide) ?_
    refine wp_iload_n dX0_dropFirst_10 rfl rfl ?_
    refine wp_aload_n dX0_dropFirst_11 rfl rfl ?_
    refine wp_get 2 rfl fl_RX0_40 rfl ⟨by omega, by omega⟩ dX0_dropFirst_12 rfl (v := 4) (h5) ?_
    refine wp_icmp_ge (tgt := 43) dX0_dropFirst_15 (by decide) (fun _ => ?_) (fun h => absurd h (by decide))
    refine wp_aload_n dX0_dropFirst_43 rfl rfl ?_
    refine wp_dup dX0_dropFirst_44 (Or.inr rfl) ?_
    refine wp_get 2 rfl fl_RX0_40 rfl ⟨by omega, by omega⟩ dX0_dropFirst_45 rfl (v := 4) (h5) ?_
    refine wp_iconst dX0_dropFirst_48 (by decide) ?_
    refine wp_isub dX0_dropFirst_49 (by omega) ?_
    refine wp_puti 2 rfl fl_RX0_40 rfl ⟨by omega, by omega⟩ dX0_dropFirst_50 rfl rfl ?_
    refine wp_vret rfl dX0_dropFirst_53 ?_
    refine k _ (Fr.put (Fr.put (Fr.put (Fr.put Fr.rf (Or.inl rfl)) (Or.inl rfl)) (Or.inl rfl)) (Or.inr ⟨rfl, rfl⟩)) ?_ ?_
    · show 4 - 1 = M 2 3 - 1
      omega
    · intro q hq
      rcases (show q = 0 ∨ q = 1 ∨ q = 2 by omega) with rfl | rfl | rfl
      · rfl
      · rfl
      · rfl
  · refine wp_aload_n dX0_dropFirst_0 rfl rfl ?_
    refine wp_get 2 rfl fl_RX0_40 rfl ⟨by omega, by omega⟩ dX0_dropFirst_1 rfl (v := 5) (h5) ?_
    refine wp_if_gt (tgt := 8) dX0_dropFirst_4 (by decide) (fun _ => ?_) (fun h => absurd h (by decide))
    refine wp_iconst dX0_dropFirst_8 (by decide) ?_
    refine wp_istore_n (loc' := [(2, 2), (0, 1)]) dX0_dropFirst_9 rfl (Nat.le_of_ble_eq_true rfl) rfl ?_
    refine wp_iload_n dX0_dropFirst_10 rfl rfl ?_
    refine wp_aload_n dX0_dropFirst_11 rfl rfl ?_
    refine wp_get 2 rfl fl_RX0_40 rfl ⟨by omega, by omega⟩ dX0_dropFirst_12 rfl (v := 5) (h5) ?_
    refine wp_icmp_ge (tgt := 43) dX0_dropFirst_15 (by decide) (fun h => absurd h (by decide)) (fun _ => ?_)
    refine wp_iload_n dX0_dropFirst_18 rfl rfl ?_
    refine wp_iconst dX0_dropFirst_19 (by decide) ?_
    refine wp_icmp_ge (tgt := 43) dX0_dropFirst_20 (by decide) (fun h => absurd h (by decide)) (fun _ => ?_)
    refine wp_aload_n dX0_dropFirst_23 rfl rfl ?_
    refine wp_get 2 rfl fl_RX0_27 rfl ⟨by omega, by omega⟩ dX0_dropFirst_24 rfl (v := 8) (sr_2_9 (M := M) hR) ?_
    refine wp_iload_n dX0_dropFirst_27 rfl rfl ?_
    refine wp_iconst dX0_dropFirst_28 (by decide) ?_
    refine wp_isub dX0_dropFirst_29 (by omega) ?_
    refine wp_aload_n dX0_dropFirst_30 rfl rfl ?_
    refine wp_get 2 rfl fl_RX0_27 rfl ⟨by omega, by omega⟩ dX0_dropFirst_31 rfl (v := 8) (sr_2_9 (M := M) hR) ?_
    refine wp_iload_n dX0_dropFirst_34 rfl rfl ?_
    refine wp_iald 8 rfl rfl ⟨by omega, by omega⟩ ⟨by omega, by omega⟩ dX0_dropFirst_35 (v := (M 8 1)) (rfl) ?_
    refine wp_iast 8 rfl rfl ⟨by omega, by omega⟩ ⟨by omega, by omega⟩ dX0_dropFirst_36 (jn := 0) rfl ?_
    refine wp_iinc (loc' := [(2, 2), (0, 2)]) dX0_dropFirst_37 rfl (by omega) rfl ?_
    refine wp_goto (tgt := 10) dX0_dropFirst_40 (by decide) ?_
    refine wp_iload_n dX0_dropFirst_10 rfl rfl ?_
    refine wp_aload_n dX0_dropFirst_11 rfl rfl ?_
    refine wp_get 2 rfl fl_RX0_40 rfl ⟨by omega, by omega⟩ dX0_dropFirst_12 rfl (v := 5) (h5) ?_
    refine wp_icmp_ge (tgt := 43) dX0_dropFirst_15 (by decide) (fun h => absurd h (by decide)) (fun _ => ?_)
    refine wp_iload_n dX0_dropFirst_18 rfl rfl ?_
    refine wp_iconst dX0_dropFirst_19 (by decide) ?_
    refine wp_icmp_ge (tgt := 43) dX0_dropFirst_20 (by decide) (fun h => absurd h (by decide)) (fun _ => ?_)
    refine wp_aload_n dX0_dropFirst_23 rfl rfl ?_
    refine wp_get 2 rfl fl_RX0_27 rfl ⟨by omega, by omega⟩ dX0_dropFirst_24 rfl (v := 8) (sr_2_9 (M := M) hR) ?_
    refine wp_iload_n dX0_dropFirst_27 rfl rfl ?_
    refine wp_iconst dX0_dropFirst_28 (by decide) ?_
    refine wp_isub dX0_dropFirst_29 (by omega) ?_
    refine wp_aload_n dX0_dropFirst_30 rfl rfl ?_
    refine wp_get 2 rfl fl_RX0_27 rfl ⟨by omega, by omega⟩ dX0_dropFirst_31 rfl (v := 8) (sr_2_9 (M := M) hR) ?_
    refine wp_iload_n dX0_dropFirst_34 rfl rfl ?_
    refine wp_iald 8 rfl rfl ⟨by omega, by omega⟩ ⟨by omega, by omega⟩ dX0_dropFirst_35 (v := (M 8 2)) (rfl) ?_
    refine wp_iast 8 rfl rfl ⟨by omega, by omega⟩ ⟨by omega, by omega⟩ dX0_dropFirst_36 (jn := 1) rfl ?_
    refine wp_iinc (loc' := [(2, 2), (0, 3)]) dX0_dropFirst_37 rfl (by omega) rfl ?_
    refine wp_goto (tgt := 10) dX0_dropFirst_40 (by decide) ?_
    refine wp_iload_n dX0_dropFirst_10 rfl rfl ?_
    refine wp_aload_n dX0_dropFirst_11 rfl rfl ?_
    refine wp_get 2 rfl fl_RX0_40 rfl ⟨by omega, by omega⟩ dX0_dropFirst_12 rfl (v := 5) (h5) ?_
    refine wp_icmp_ge (tgt := 43) dX0_dropFirst_15 (by decide) (fun h => absurd h (by decide)) (fun _ => ?_)
    refine wp_iload_n dX0_dropFirst_18 rfl rfl ?_
    refine wp_iconst dX0_dropFirst_19 (by decide) ?_
    refine wp_icmp_ge (tgt := 43) dX0_dropFirst_20 (by decide) (fun h => absurd h (by decide)) (fun _ => ?_)
    refine wp_aload_n dX0_dropFirst_23 rfl rfl ?_
    refine wp_get 2 rfl fl_RX0_27 rfl ⟨by omega, by omega⟩ dX0_dropFirst_24 rfl (v := 8) (sr_2_9 (M := M) hR) ?_
    refine wp_iload_n dX0_dropFirst_27 rfl rfl ?_
    refine wp_iconst dX0_dropFirst_28 (by decide) ?_
    refine wp_isub dX0_dropFirst_29 (by omega) ?_
    refine wp_aload_n dX0_dropFirst_30 rfl rfl ?_
    refine wp_get 2 rfl fl_RX0_27 rfl ⟨by omega, by omega⟩ dX0_dropFirst_31 rfl (v := 8) (sr_2_9 (M := M) hR) ?_
    refine wp_iload_n dX0_dropFirst_34 rfl rfl ?_
    refine wp_iald 8 rfl rfl ⟨by omega, by omega⟩ ⟨by omega, by omega⟩ dX0_dropFirst_35 (v := (M 8 3)) (rfl) ?_
    refine wp_iast 8 rfl rfl ⟨by omega, by omega⟩ ⟨by omega, by omega⟩ dX0_dropFirst_36 (jn := 2) rfl ?_
    refine wp_iinc (loc' := [(2, 2), (0, 4)]) dX0_dropFirst_37 rfl (by omega) rfl ?_
    refine wp_goto (tgt := 10) dX0_dropFirst_40 (by decide) ?_
    refine wp_iload_n dX0_dropFirst_10 rfl rfl ?_
    refine wp_aload_n dX0_dropFirst_11 rfl rfl ?_
    refine wp_get 2 rfl fl_RX0_40 rfl ⟨by omega, by omega⟩ dX0_dropFirst_12 rfl (v := 5) (h5) ?_
    refine wp_icmp_ge (tgt := 43) dX0_dropFirst_15 (by decide) (fun h => absurd h (by decide)) (fun _ => ?_)
    refine wp_iload_n dX0_dropFirst_18 rfl rfl ?_
    refine wp_iconst dX0_dropFirst_19 (by decide) ?_
    refine wp_icmp_ge (tgt := 43) dX0_dropFirst_20 (by decide) (fun h => absurd h (by decide)) (fun _ => ?_)
    refine wp_aload_n dX0_dropFirst_23 rfl rfl ?_
    refine wp_get 2 rfl fl_RX0_27 rfl ⟨by omega, by omega⟩ dX0_dropFirst_24 rfl (v := 8) (sr_2_9 (M := M) hR) ?_
    refine wp_iload_n dX0_dropFirst_27 rfl rfl ?_
    refine wp_iconst dX0_dropFirst_28 (by decide) ?_
    refine wp_isub dX0_dropFirst_29 (by omega) ?_
    refine wp_aload_n dX0_dropFirst_30 rfl rfl ?_
    refine wp_get 2 rfl fl_RX0_27 rfl ⟨by omega, by omega⟩ dX0_dropFirst_31 rfl (v := 8) (sr_2_9 (M := M) hR) ?_
    refine wp_iload_n dX0_dropFirst_34 rfl rfl ?_
    refine wp_iald 8 rfl rfl ⟨by omega, by omega⟩ ⟨by omega, by omega⟩ dX0_dropFirst_35 (v := (M 8 4)) (rfl) ?_
    refine wp_iast 8 rfl rfl ⟨by omega, by omega⟩ ⟨by omega, by omega⟩ dX0_dropFirst_36 (jn := 3) rfl ?_
    refine wp_iinc (loc' := [(2, 2), (0, 5)]) dX0_dropFirst_37 rfl (by omega) rfl ?_
    refine wp_goto (tgt := 10) dX0_dropFirst_40 (by decide) ?_
    refine wp_iload_n dX0_dropFirst_10 rfl rfl ?_
    refine wp_aload_n dX0_dropFirst_11 rfl rfl ?_
    refine wp_get 2 rfl fl_RX0_40 rfl ⟨by omega, by omega⟩ dX0_dropFirst_12 rfl (v := 5) (h5) ?_
    refine wp_icmp_ge (tgt := 43) dX0_dropFirst_15 (by decide) (fun _ => ?_) (fun h => absurd h (by decide))
    refine wp_aload_n dX0_dropFirst_43 rfl rfl ?_
    refine wp_dup dX0_dropFirst_44 (Or.inr rfl) ?_
    refine wp_get 2 rfl fl_RX0_40 rfl ⟨by omega, by omega⟩ dX0_dropFirst_45 rfl (v := 5) (h5) ?_
    refine wp_iconst dX0_dropFirst_48 (by decide) ?_
    refine wp_isub dX0_dropFirst_49 (by omega) ?_
    refine wp_puti 2 rfl fl_RX0_40 rfl ⟨by omega, by omega⟩ dX0_dropFirst_50 rfl rfl ?_
    refine wp_vret rfl dX0_dropFirst_53 ?_
    refine k _ (Fr.put (Fr.put (Fr.put (Fr.put (Fr.put Fr.rf (Or.inl rfl)) (Or.inl rfl)) (Or.inl rfl)) (Or.inl rfl)) (Or.inr ⟨rfl, rfl⟩)) ?_ ?_
    · show 5 - 1 = M 2 3 - 1
      omega
    · intro q hq
      rcases (show q = 0 ∨ q = 1 ∨ q = 2 ∨ q = 3 by omega) with rfl | rfl | rfl | rfl
      · rfl
      · rfl
      · rfl
      · rfl
set_option maxRecDepth 20000 in
set_option maxHeartbeats 4000000 in
theorem sp_dropFirst_16 {l : Launch} {g : Gw} {d n : Nat} {M : Mm} {Q : Option Wd → Mm → Prop} (hn : 60 ≤ n) (hR : SR M) (h1 : 1 ≤ M 16 3) (h55 : M 16 3 ≤ 5) (k : ∀ M', Fr (VL 16) M M' → M' 16 3 = M 16 3 - 1 → (∀ q : Nat, (q : Int) + 1 < M 16 3 → M' 22 q = M 22 (q + 1)) → Q none M') : Wp l g d 0 0 n m_X0_dropFirst 0 [] [(2, 16), (9, 0)] M Q := by
  obtain ⟨n5, h5⟩ : ∃ k : Nat, M 16 3 = (k : Int) := ⟨(M 16 3).toNat, by omega⟩
  rcases (show n5 = 1 ∨ n5 = 2 ∨ n5 = 3 ∨ n5 = 4 ∨ n5 = 5 by omega) with rfl | rfl | rfl | rfl | rfl
  · refine wp_aload_n dX0_dropFirst_0 rfl rfl ?_
    refine wp_get 16 rfl fl_RX0_40 rfl ⟨by omega, by omega⟩ dX0_dropFirst_1 rfl (v := 1) (h5) ?_
    refine wp_if_gt (tgt := 8) dX0_dropFirst_4 (by decide) (fun _ => ?_) (fun h => absurd h (by decide))
    refine wp_iconst dX0_dropFirst_8 (by decide) ?_
    refine wp_istore_n (loc' := [(2, 16), (0, 1)]) dX0_dropFirst_9 rfl (Nat.le_of_ble_eq_true rfl) rfl ?_
    refine wp_iload_n dX0_dropFirst_10 rfl rfl ?_
    refine wp_aload_n dX0_dropFirst_11 rfl rfl ?_
    refine wp_get 16 rfl fl_RX0_40 rfl ⟨by omega, by omega⟩ dX0_dropFirst_12 rfl (v := 1) (h5) ?_
    refine wp_icmp_ge (tgt := 43) dX0_dropFirst_15 (by decide) (fun _ => ?_) (fun h => absurd h (by decide))
    refine wp_aload_n dX0_dropFirst_43 rfl rfl ?_
    refine wp_dup dX0_dropFirst_44 (Or.inr rfl) ?_
    refine wp_get 16 rfl fl_RX0_40 rfl ⟨by omega, by omega⟩ dX0_dropFirst_45 rfl (v := 1) (h5) ?_
    refine wp_iconst dX0_dropFirst_48 (by decide) ?_
    refine wp_isub dX0_dropFirst_49 (by omega) ?_
    refine wp_puti 16 rfl fl_RX0_40 rfl ⟨by omega, by omega⟩ dX0_dropFirst_50 rfl rfl ?_
    refine wp_vret rfl dX0_dropFirst_53 ?_
    refine k _ (Fr.put Fr.rf (Or.inr ⟨rfl, rfl⟩)) ?_ ?_
    · show 1 - 1 = M 16 3 - 1
      omega
    · intro q hq
      rcases (show q = 0 by omega) with rfl
      · omega
  · refine wp_aload_n dX0_dropFirst_0 rfl rfl ?_
    refine wp_get 16 rfl fl_RX0_40 rfl ⟨by omega, by omega⟩ dX0_dropFirst_1 rfl (v := 2) (h5) ?_
    refine wp_if_gt (tgt := 8) dX0_dropFirst_4 (by decide) (fun _ => ?_) (fun h => absurd h (by decide))
    refine wp_iconst dX0_dropFirst_8 (by decide) ?_
    refine wp_istore_n (loc' := [(2, 16), (0, 1)]) dX0_dropFirst_9 rfl (Nat.le_of_ble_eq_true rfl) rfl ?_
    refine wp_iload_n dX0_dropFirst_10 rfl rfl ?_
    refine wp_aload_n dX0_dropFirst_11 rfl rfl ?_
    refine wp_get 16 rfl fl_RX0_40 rfl ⟨by omega, by omega⟩ dX0_dropFirst_12 rfl (v := 2) (h5) ?_
    refine wp_icmp_ge (tgt := 43) dX0_dropFirst_15 (by decide) (fun h => absurd h (by decide)) (fun _ => ?_)
    refine wp_iload_n dX0_dropFirst_18 rfl rfl ?_
    refine wp_iconst dX0_dropFirst_19 (by decide) ?_
    refine wp_icmp_ge (tgt := 43) dX0_dropFirst_20 (by decide) (fun h => absurd h (by decide)) (fun _ => ?_)
    refine wp_aload_n dX0_dropFirst_23 rfl rfl ?_
    refine wp_get 16 rfl fl_RX0_27 rfl ⟨by omega, by omega⟩ dX0_dropFirst_24 rfl (v := 22) (sr_16_9 (M := M) hR) ?_
    refine wp_iload_n dX0_dropFirst_27 rfl rfl ?_
    refine wp_iconst dX0_dropFirst_28 (by decide) ?_
    refine wp_isub dX0_dropFirst_29 (by omega) ?_
    refine wp_aload_n dX0_dropFirst_30 rfl rfl ?_
    refine wp_get 16 rfl fl_RX0_27 rfl ⟨by omega, by omega⟩ dX0_dropFirst_31 rfl (v := 22) (sr_16_9 (M := M) hR) ?_
    refine wp_iload_n dX0_dropFirst_34 rfl rfl ?_
    refine wp_iald 22 rfl rfl ⟨by omega, by omega⟩ ⟨by omega, by omega⟩ dX0_dropFirst_35 (v := (M 22 1)) (rfl) ?_
    refine wp_iast 22 rfl rfl ⟨by omega, by omega⟩ ⟨by omega, by omega⟩ dX0_dropFirst_36 (jn := 0) rfl ?_
    refine wp_iinc (loc' := [(2, 16), (0, 2)]) dX0_dropFirst_37 rfl (by omega) rfl ?_
    refine wp_goto (tgt := 10) dX0_dropFirst_40 (by decide) ?_
    refine wp_iload_n dX0_dropFirst_10 rfl rfl ?_
    refine wp_aload_n dX0_dropFirst_11 rfl rfl ?_
    refine wp_get 16 rfl fl_RX0_40 rfl ⟨by omega, by omega⟩ dX0_dropFirst_12 rfl (v := 2) (h5) ?_
    refine wp_icmp_ge (tgt := 43) dX0_dropFirst_15 (by decide) (fun _ => ?_) (fun h => absurd h (by decide))
    refine wp_aload_n dX0_dropFirst_43 rfl rfl ?_
    refine wp_dup dX0_dropFirst_44 (Or.inr rfl) ?_
    refine wp_get 16 rfl fl_RX0_40 rfl ⟨by omega, by omega⟩ dX0_dropFirst_45 rfl (v := 2) (h5) ?_
    refine wp_iconst dX0_dropFirst_48 (by decide) ?_
    refine wp_isub dX0_dropFirst_49 (by omega) ?_
    refine wp_puti 16 rfl fl_RX0_40 rfl ⟨by omega, by omega⟩ dX0_dropFirst_50 rfl rfl ?_
    refine wp_vret rfl dX0_dropFirst_53 ?_
    refine k _ (Fr.put (Fr.put Fr.rf (Or.inl rfl)) (Or.inr ⟨rfl, rfl⟩)) ?_ ?_
    · show 2 - 1 = M 16 3 - 1
      omega
    · intro q hq
      rcases (show q = 0 by omega) with rfl
      · rfl
  · refine wp_aload_n dX0_dropFirst_0 rfl rfl ?_
    refine wp_get 16 rfl fl_RX0_40 rfl ⟨by omega, by omega⟩ dX0_dropFirst_1 rfl (v := 3) (h5) ?_
    refine wp_if_gt (tgt := 8) dX0_dropFirst_4 (by decide) (fun _ => ?_) (fun h => absurd h (by decide))
    refine wp_iconst dX0_dropFirst_8 (by decide) ?_
    refine wp_istore_n (loc' := [(2, 16), (0, 1)]) dX0_dropFirst_9 rfl (Nat.le_of_ble_eq_true rfl) rfl ?_
    refine wp_iload_n dX0_dropFirst_10 rfl rfl ?_
    refine wp_aload_n dX0_dropFirst_11 rfl rfl ?_
    refine wp_get 16 rfl fl_RX0_40 rfl ⟨by omega, by omega⟩ dX0_dropFirst_12 rfl (v := 3) (h5) ?_
    refine wp_icmp_ge (tgt := 43) dX0_dropFirst_15 (by decide) (fun h => absurd h (by decide)) (fun _ => ?_)
    refine wp_iload_n dX0_dropFirst_18 rfl rfl ?_
    refine wp_iconst dX0_dropFirst_19 (by decide) ?_
    refine wp_icmp_ge (tgt := 43) dX0_dropFirst_20 (by decide) (fun h => absurd h (by decide)) (fun _ => ?_)
    refine wp_aload_n dX0_dropFirst_23 rfl rfl ?_
    refine wp_get 16 rfl fl_RX0_27 rfl ⟨by omega, by omega⟩ dX0_dropFirst_24 rfl (v := 22) (sr_16_9 (M := M) hR) ?_
    refine wp_iload_n dX0_dropFirst_27 rfl rfl ?_
    refine wp_iconst dX0_dropFirst_28 (by decide) ?_
    refine wp_isub dX0_dropFirst_29 (by omega) ?_
    refine wp_aload_n dX0_dropFirst_30 rfl rfl ?_
    refine wp_get 16 rfl fl_RX0_27 rfl ⟨by omega, by omega⟩ dX0_dropFirst_31 rfl (v := 22) (sr_16_9 (M := M) hR) ?_
    refine wp_iload_n dX0_dropFirst_34 rfl rfl ?_
    refine wp_iald 22 rfl rfl ⟨by omega, by omega⟩ ⟨by omega, by omega⟩ dX0_dropFirst_35 (v := (M 22 1)) (rfl) ?_
    refine wp_iast 22 rfl rfl ⟨by omega, by omega⟩ ⟨by omega, by omega⟩ dX0_dropFirst_36 (jn := 0) rfl ?_
    refine wp_iinc (loc' := [(2, 16), (0, 2)]) dX0_dropFirst_37 rfl (by omega) rfl ?_
    refine wp_goto (tgt := 10) dX0_dropFirst_40 (by decide) ?_
    refine wp_iload_n dX0_dropFirst_10 rfl rfl ?_
    refine wp_aload_n dX0_dropFirst_11 rfl rfl ?_
    refine wp_get 16 rfl fl_RX0_40 rfl ⟨by omega, by omega⟩ dX0_dropFirst_12 rfl (v := 3) (h5) ?_
    refine wp_icmp_ge (tgt := 43) dX0_dropFirst_15 (by decide) (fun h => absurd h (by decide)) (fun _ => ?_)
    refine wp_iload_n dX0_dropFirst_18 rfl rfl ?_
    refine wp_iconst dX0_dropFirst_19 (by decide) ?_
    refine wp_icmp_ge (tgt := 43) dX0_dropFirst_20 (by decide) (fun h => absurd h (by decide)) (fun _ => ?_)
    refine wp_aload_n dX0_dropFirst_23 rfl rfl ?_
    refine wp_get 16 rfl fl_RX0_27 rfl ⟨by omega, by omega⟩ dX0_dropFirst_24 rfl (v := 22) (sr_16_9 (M := M) hR) ?_
    refine wp_iload_n dX0_dropFirst_27 rfl rfl ?_
    refine wp_iconst dX0_dropFirst_28 (by decide) ?_
    refine wp_isub dX0_dropFirst_29 (by omega) ?_
    refine wp_aload_n dX0_dropFirst_30 rfl rfl ?_
    refine wp_get 16 rfl fl_RX0_27 rfl ⟨by omega, by omega⟩ dX0_dropFirst_31 rfl (v := 22) (sr_16_9 (M := M) hR) ?_
    refine wp_iload_n dX0_dropFirst_34 rfl rfl ?_
    refine wp_iald 22 rfl rfl ⟨by omega, by omega⟩ ⟨by omega, by omega⟩ dX0_dropFirst_35 (v := (M 22 2)) (rfl) ?_
    refine wp_iast 22 rfl rfl ⟨by omega, by omega⟩ ⟨by omega, by omega⟩ dX0_dropFirst_36 (jn := 1) rfl ?_
    refine wp_iinc (loc' := [(2, 16), (0, 3)]) dX0_dropFirst_37 rfl (by omega) rfl ?_
    refine wp_goto (tgt := 10) dX0_dropFirst_40 (by decide) ?_
    refine wp_iload_n dX0_dropFirst_10 rfl rfl ?_
    refine wp_aload_n dX0_dropFirst_11 rfl rfl ?_
    refine wp_get 16 rfl fl_RX0_40 rfl ⟨by omega, by omega⟩ dX0_dropFirst_12 rfl (v := 3) (h5) ?_
    refine wp_icmp_ge (tgt := 43) dX0_dropFirst_15 (by decide) (fun _ => ?_) (fun h => absurd h (by decide))
    refine wp_aload_n dX0_dropFirst_43 rfl rfl ?_
    refine wp_dup dX0_dropFirst_44 (Or.inr rfl) ?_
    refine wp_get 16 rfl fl_RX0_40 rfl ⟨by omega, by omega⟩ dX0_dropFirst_45 rfl (v := 3) (h5) ?_
    refine wp_iconst dX0_dropFirst_48 (by decide) ?_
    refine wp_isub dX0_dropFirst_49 (by omega) ?_
    refine wp_puti 16 rfl fl_RX0_40 rfl ⟨by omega, by omega⟩ dX0_dropFirst_50 rfl rfl ?_
    refine wp_vret rfl dX0_dropFirst_53 ?_
    refine k _ (Fr.put (Fr.put (Fr.put Fr.rf (Or.inl rfl)) (Or.inl rfl)) (Or.inr ⟨rfl, rfl⟩)) ?_ ?_
    · show 3 - 1 = M 16 3 - 1
      omega
    · intro q hq
      rcases (show q = 0 ∨ q = 1 by omega) with rfl | rfl
      · rfl
      · rfl
  · refine wp_aload_n dX0_dropFirst_0 rfl rfl ?_
    refine wp_get 16 rfl fl_RX0_40 rfl ⟨by omega, by omega⟩ dX0_dropFirst_1 rfl (v := 4) (h5) ?_
    refine wp_if_gt (tgt := 8) dX0_dropFirst_4 (by decide) (fun _ => ?_) (fun h => absurd h (by decide))
    refine wp_iconst dX0_dropFirst_8 (by decide) ?_
    refine wp_istore_n (loc' := [(2, 16), (0, 1)]) dX0_dropFirst_9 rfl (Nat.le_of_ble_eq_true rfl) rfl ?_
    refine wp_iload_n dX0_dropFirst_10 rfl rfl ?_
    refine wp_aload_n dX0_dropFirst_11 rfl rfl ?_
    refine wp_get 16 rfl fl_RX0_40 rfl ⟨by omega, by omega⟩ dX0_dropFirst_12 rfl (v := 4) (h5) ?_
    refine wp_icmp_ge (tgt := 43) dX0_dropFirst_15 (by decide) (fun h => absurd h (by decide)) (fun _ => ?_)
    refine wp_iload_n dX0_dropFirst_18 rfl rfl ?_
    refine wp_iconst dX0_dropFirst_19 (by decide) ?_
    refine wp_icmp_ge (tgt := 43) dX0_dropFirst_20 (by decide) (fun h => absurd h (by decide)) (fun _ => ?_)
    refine wp_aload_n dX0_dropFirst_23 rfl rfl ?_
    refine wp_get 16 rfl fl_RX0_27 rfl ⟨by omega, by omega⟩ dX0_dropFirst_24 rfl (v := 22) (sr_16_9 (M := M) hR) ?_
    refine wp_iload_n dX0_dropFirst_27 rfl rfl ?_
    refine wp_iconst dX0_dropFirst_28 (by decide) ?_
    refine wp_isub dX0_dropFirst_29 (by omega) ?_
    refine wp_aload_n dX0_dropFirst_30 rfl rfl ?_
    refine wp_get 16 rfl fl_RX0_27 rfl ⟨by omega, by omega⟩ dX0_dropFirst_31 rfl (v := 22) (sr_16_9 (M := M) hR) ?_
    refine wp_iload_n dX0_dropFirst_34 rfl rfl ?_
    refine wp_iald 22 rfl rfl ⟨by omega, by omega⟩ ⟨by omega, by omega⟩ dX0_dropFirst_35 (v := (M 22 1)) (rfl) ?_
    refine wp_iast 22 rfl rfl ⟨by omega, by omega⟩ ⟨by omega, by omega⟩ dX0_dropFirst_36 (jn := 0) rfl ?_
    refine wp_iinc (loc' := [(2, 16), (0, 2)]) dX0_dropFirst_37 rfl (by omega) rfl ?_
    refine wp_goto (tgt := 10) dX0_dropFirst_40 (by decide) ?_
    refine wp_iload_n dX0_dropFirst_10 rfl rfl ?_
    refine wp_aload_n dX0_dropFirst_11 rfl rfl ?_
    refine wp_get 16 rfl fl_RX0_40 rfl ⟨by omega, by omega⟩ dX0_dropFirst_12 rfl (v := 4) (h5) ?_
    refine wp_icmp_ge (tgt := 43) dX0_dropFirst_15 (by decide) (fun h => absurd h (by decide)) (fun _ => ?_)
    refine wp_iload_n dX0_dropFirst_18 rfl rfl ?_
    refine wp_iconst dX0_dropFirst_19 (by decide) ?_
    refine wp_icmp_ge (tgt := 43) dX0_dropFirst_20 (by decide) (fun h => absurd h (by decide)) (fun _ => ?_)
    refine wp_aload_n dX0_dropFirst_23 rfl rfl ?_
    refine wp_get 16 rfl fl_RX0_27 rfl ⟨by omega, by omega⟩ dX0_dropFirst_24 rfl (v := 22) (sr_16_9 (M := M) hR) ?_
    refine wp_iload_n dX0_dropFirst_27 rfl rfl ?_
    refine wp_iconst dX0_dropFirst_28 (by decide) ?_
    refine wp_isub dX0_dropFirst_29 (by omega) ?_
    refine wp_aload_n dX0_dropFirst_30 rfl rfl ?_
    refine wp_get 16 rfl fl_RX0_27 rfl ⟨by omega, by omega⟩ dX0_dropFirst_31 rfl (v := 22) (sr_16_9 (M := M) hR) ?_
    refine wp_iload_n dX0_dropFirst_34 rfl rfl ?_
    refine wp_iald 22 rfl rfl ⟨by omega, by omega⟩ ⟨by omega, by omega⟩ dX0_dropFirst_35 (v := (M 22 2)) (rfl) ?_
    refine wp_iast 22 rfl rfl ⟨by omega, by omega⟩ ⟨by omega, by omega⟩ dX0_dropFirst_36 (jn := 1) rfl ?_
    refine wp_iinc (loc' := [(2, 16), (0, 3)]) dX0_dropFirst_37 rfl (by omega) rfl ?_
    refine wp_goto (tgt := 10) dX0_dropFirst_40 (by decide) ?_
    refine wp_iload_n dX0_dropFirst_10 rfl rfl ?_
    refine wp_aload_n dX0_dropFirst_11 rfl rfl ?_
    refine wp_get 16 rfl fl_RX0_40 rfl ⟨by omega, by omega⟩ dX0_dropFirst_12 rfl (v := 4) (h5) ?_
    refine wp_icmp_ge (tgt := 43) dX0_dropFirst_15 (by decide) (fun h => absurd h (by decide)) (fun _ => ?_)
    refine wp_iload_n dX0_dropFirst_18 rfl rfl ?_
    refine wp_iconst dX0_dropFirst_19 (by decide) ?_
    refine wp_icmp_ge (tgt := 43) dX0_dropFirst_20 (by decide) (fun h => absurd h (by decide)) (fun _ => ?_)
    refine wp_aload_n dX0_dropFirst_23 rfl rfl ?_
    refine wp_get 16 rfl fl_RX0_27 rfl ⟨by omega, by omega⟩ dX0_dropFirst_24 rfl (v := 22) (sr_16_9 (M := M) hR) ?_
    refine wp_iload_n dX0_dropFirst_27 rfl rfl ?_
    refine wp_iconst dX0_dropFirst_28 (by decide) ?_
    refine wp_isub dX0_dropFirst_29 (by omega) ?_
    refine wp_aload_n dX0_dropFirst_30 rfl rfl ?_
    refine wp_get 16 rfl fl_RX0_27 rfl ⟨by omega, by omega⟩ dX0_dropFirst_31 rfl (v := 22) (sr_16_9 (M := M) hR) ?_
    refine wp_iload_n dX0_dropFirst_34 rfl rfl ?_
    refine wp_iald 22 rfl rfl ⟨by omega, by omega⟩ ⟨by omega, by omega⟩ dX0_dropFirst_35 (v := (M 22 3)) (rfl) ?_
    refine wp_iast 22 rfl rfl ⟨by omega, by omega⟩ ⟨by omega, by omega⟩ dX0_dropFirst_36 (jn := 2) rfl ?_
    refine wp_iinc (loc' := [(2, 16), (0, 4)]) dX0_dropFirst_37 rfl (by omega) rfl ?_
    refine wp_goto (tgt := 10) dX0_dropFirst_40 (by decide) ?_
    refine wp_iload_n dX0_dropFirst_10 rfl rfl ?_
    refine wp_aload_n dX0_dropFirst_11 rfl rfl ?_
    refine wp_get 16 rfl fl_RX0_40 rfl ⟨by omega, by omega⟩ dX0_dropFirst_12 rfl (v := 4) (h5) ?_
    refine wp_icmp_ge (tgt := 43) dX0_dropFirst_15 (by decide) (fun _ => ?_) (fun h => absurd h (by decide))
    refine wp_aload_n dX0_dropFirst_43 rfl rfl ?_
    refine wp_dup dX0_dropFirst_44 (Or.inr rfl) ?_
    refine wp_get 16 rfl fl_RX0_40 rfl ⟨by omega, by omega⟩ dX0_dropFirst_45 rfl (v := 4) (h5) ?_
    refine wp_iconst dX0_dropFirst_48 (by decide) ?_
    refine wp_isub dX0_dropFirst_49 (by omega) ?_
    refine wp_puti 16 rfl fl_RX0_40 rfl ⟨by omega, by omega⟩ dX0_dropFirst_50 rfl rfl ?_
    refine wp_vret rfl dX0_dropFirst_53 ?_
    refine k _ (Fr.put (Fr.put (Fr.put (Fr.put Fr.rf (Or.inl rfl)) (Or.inl rfl)) (Or.inl rfl)) (Or.inr ⟨rfl, rfl⟩)) ?_ ?_
    · show 4 - 1 = M 16 3 - 1
      omega
    · intro q hq
      rcases (show q = 0 ∨ q = 1 ∨ q = 2 by omega) with rfl | rfl | rfl
      · rfl
      · rfl
      · rfl
  · refine wp_aload_n dX0_dropFirst_0 rfl rfl ?_
    refine wp_get 16 rfl fl_RX0_40 rfl ⟨by omega, by omega⟩ dX0_dropFirst_1 rfl (v := 5) (h5) ?_
    refine wp_if_gt (tgt := 8) dX0_dropFirst_4 (by decide) (fun _ => ?_) (fun h => absurd h (by decide))
    refine wp_iconst dX0_dropFirst_8 (by decide) ?_
    refine wp_istore_n (loc' := [(2, 16), (0, 1)]) dX0_dropFirst_9 rfl (Nat.le_of_ble_eq_true rfl) rfl ?_
    refine wp_iload_n dX0_dropFirst_10 rfl rfl ?_
    refine wp_aload_n dX0_dropFirst_11 rfl rfl ?_
    refine wp_get 16 rfl fl_RX0_40 rfl ⟨by omega, by omega⟩ dX0_dropFirst_12 rfl (v := 5) (h5) ?_
    refine wp_icmp_ge (tgt := 43) dX0_dropFirst_15 (by decide) (fun h => absurd h (by decide)) (fun _ => ?_)
    refine wp_iload_n dX0_dropFirst_18 rfl rfl ?_
    refine wp_iconst dX0_dropFirst_19 (by decide) ?_
    refine wp_icmp_ge (tgt := 43) dX0_dropFirst_20 (by decide) (fun h => absurd h (by decide)) (fun _ => ?_)
    refine wp_aload_n dX0_dropFirst_23 rfl rfl ?_
    refine wp_get 16 rfl fl_RX0_27 rfl ⟨by omega, by omega⟩ dX0_dropFirst_24 rfl (v := 22) (sr_16_9 (M := M) hR) ?_
    refine wp_iload_n dX0_dropFirst_27 rfl rfl ?_
    refine wp_iconst dX0_dropFirst_28 (by decide) ?_
    refine wp_isub dX0_dropFirst_29 (by omega) ?_
    refine wp_aload_n dX0_dropFirst_30 rfl rfl ?_
    refine wp_get 16 rfl fl_RX0_27 rfl ⟨by omega, by omega⟩ dX0_dropFirst_31 rfl (v := 22) (sr_16_9 (M := M) hR) ?_
    refine wp_iload_n dX0_dropFirst_34 rfl rfl ?_
    refine wp_iald 22 rfl rfl ⟨by omega, by omega⟩ ⟨by omega, by omega⟩ dX0_dropFirst_35 (v := (M 22 1)) (rfl) ?_
    refine wp_iast 22 rfl rfl ⟨by omega, by omega⟩ ⟨by omega, by omega⟩ dX0_dropFirst_36 (jn := 0) rfl ?_
    refine wp_iinc (loc' := [(2, 16), (0, 2)]) dX0_dropFirst_37 rfl (by omega) rfl ?_
    refine wp_goto (tgt := 10) dX0_dropFirst_40 (by decide) ?_
    refine wp_iload_n dX0_dropFirst_10 rfl rfl ?_
    refine wp_aload_n dX0_dropFirst_11 rfl rfl ?_
    refine wp_get 16 rfl fl_RX0_40 rfl ⟨by omega, by omega⟩ dX0_dropFirst_12 rfl (v := 5) (h5) ?_
    refine wp_icmp_ge (tgt := 43) dX0_dropFirst_15 (by decide) (fun h => absurd h (by decide)) (fun _ => ?_)
    refine wp_iload_n dX0_dropFirst_18 rfl rfl ?_
    refine wp_iconst dX0_dropFirst_19 (by decide) ?_
    refine wp_icmp_ge (tgt := 43) dX0_dropFirst_20 (by decide) (fun h => absurd h (by decide)) (fun _ => ?_)
    refine wp_aload_n dX0_dropFirst_23 rfl rfl ?_
    refine wp_get 16 rfl fl_RX0_27 rfl ⟨by omega, by omega⟩ dX0_dropFirst_24 rfl (v := 22) (sr_16_9 (M := M) hR) ?_
    refine wp_iload_n dX0_dropFirst_27 rfl rfl ?_
    refine wp_iconst dX0_dropFirst_28 (by decide) ?_
    refine wp_isub dX0_dropFirst_29 (by omega) ?_
    refine wp_aload_n dX0_dropFirst_30 rfl rfl ?_
    refine wp_get 16 rfl fl_RX0_27 rfl ⟨by omega, by omega⟩ dX0_dropFirst_31 rfl (v := 22) (sr_16_9 (M := M) hR) ?_
    refine wp_iload_n dX0_dropFirst_34 rfl rfl ?_
    refine wp_iald 22 rfl rfl ⟨by omega, by omega⟩ ⟨by omega, by omega⟩ dX0_dropFirst_35 (v := (M 22 2)) (rfl) ?_
    refine wp_iast 22 rfl rfl ⟨by omega, by omega⟩ ⟨by omega, by omega⟩ dX0_dropFirst_36 (jn := 1) rfl ?_
    refine wp_iinc (loc' := [(2, 16), (0, 3)]) dX0_dropFirst_37 rfl (by omega) rfl ?_
    refine wp_goto (tgt := 10) dX0_dropFirst_40 (by decide) ?_
    refine wp_iload_n dX0_dropFirst_10 rfl rfl ?_
    refine wp_aload_n dX0_dropFirst_11 rfl rfl ?_
    refine wp_get 16 rfl fl_RX0_40 rfl ⟨by omega, by omega⟩ dX0_dropFirst_12 rfl (v := 5) (h5) ?_
    refine wp_icmp_ge (tgt := 43) dX0_dropFirst_15 (by decide) (fun h => absurd h (by decide)) (fun _ => ?_)
    refine wp_iload_n dX0_dropFirst_18 rfl rfl ?_
    refine wp_iconst dX0_dropFirst_19 (by decide) ?_
    refine wp_icmp_ge (tgt := 43) dX0_dropFirst_20 (by decide) (fun h => absurd h (by decide)) (fun _ => ?_)
    refine wp_aload_n dX0_dropFirst_23 rfl rfl ?_
    refine wp_get 16 rfl fl_RX0_27 rfl ⟨by omega, by omega⟩ dX0_dropFirst_24 rfl (v := 22) (sr_16_9 (M := M) hR) ?_
    refine wp_iload_n dX0_dropFirst_27 rfl rfl ?_
    refine wp_iconst dX0_dropFirst_28 (by decide) ?_
    refine wp_isub dX0_dropFirst_29 (by omega) ?_
    refine wp_aload_n dX0_dropFirst_30 rfl rfl ?_
    refine wp_get 16 rfl fl_RX0_27 rfl ⟨by omega, by omega⟩ dX0_dropFirst_31 rfl (v := 22) (sr_16_9 (M := M) hR) ?_
    refine wp_iload_n dX0_dropFirst_34 rfl rfl ?_
    refine wp_iald 22 rfl rfl ⟨by omega, by omega⟩ ⟨by omega, by omega⟩ dX0_dropFirst_35 (v := (M 22 3)) (rfl) ?_
    refine wp_iast 22 rfl rfl ⟨by omega, by omega⟩ ⟨by omega, by omega⟩ dX0_dropFirst_36 (jn := 2) rfl ?_
    refine wp_iinc (loc' := [(2, 16), (0, 4)]) dX0_dropFirst_37 rfl (by omega) rfl ?_
    refine wp_goto (tgt := 10) dX0_dropFirst_40 (by decide) ?_
    refine wp_iload_n dX0_dropFirst_10 rfl rfl ?_
    refine wp_aload_n dX0_dropFirst_11 rfl rfl ?_
    refine wp_get 16 rfl fl_RX0_40 rfl ⟨by omega, by omega⟩ dX0_dropFirst_12 rfl (v := 5) (h5) ?_
    refine wp_icmp_ge (tgt := 43) dX0_dropFirst_15 (by decide) (fun h => absurd h (by decide)) (fun _ => ?_)
    refine wp_iload_n dX0_dropFirst_18 rfl rfl ?_
    refine wp_iconst dX0_dropFirst_19 (by decide) ?_
    refine wp_icmp_ge (tgt := 43) dX0_dropFirst_20 (by decide) (fun h => absurd h (by decide)) (fun _ => ?_)
    refine wp_aload_n dX0_dropFirst_23 rfl rfl ?_
    refine wp_get 16 rfl fl_RX0_27 rfl ⟨by omega, by omega⟩ dX0_dropFirst_24 rfl (v := 22) (sr_16_9 (M := M) hR) ?_
    refine wp_iload_n dX0_dropFirst_27 rfl rfl ?_
    refine wp_iconst dX0_dropFirst_28 (by decide) ?_
    refine wp_isub dX0_dropFirst_29 (by omega) ?_
    refine wp_aload_n dX0_dropFirst_30 rfl rfl ?_
    refine wp_get 16 rfl fl_RX0_27 rfl ⟨by omega, by omega⟩ dX0_dropFirst_31 rfl (v := 22) (sr_16_9 (M := M) hR) ?_
    refine wp_iload_n dX0_dropFirst_34 rfl rfl ?_
    refine wp_iald 22 rfl rfl ⟨by omega, by omega⟩ ⟨by omega, by omega⟩ dX0_dropFirst_35 (v := (M 22 4)) (rfl) ?_
    refine wp_iast 22 rfl rfl ⟨by omega, by omega⟩ ⟨by omega, by omega⟩ dX0_dropFirst_36 (jn := 3) rfl ?_
    refine wp_iinc (loc' := [(2, 16), (0, 5)]) dX0_dropFirst_37 rfl (by omega) rfl ?_
    refine wp_goto (tgt := 10) dX0_dropFirst_40 (by decide) ?_
    refine wp_iload_n dX0_dropFirst_10 rfl rfl ?_
    refine wp_aload_n dX0_dropFirst_11 rfl rfl ?_
    refine wp_get 16 rfl fl_RX0_40 rfl ⟨by omega, by omega⟩ dX0_dropFirst_12 rfl (v := 5) (h5) ?_
    refine wp_icmp_ge (tgt := 43) dX0_dropFirst_15 (by decide) (fun _ => ?_) (fun h => absurd h (by decide))
    refine wp_aload_n dX0_dropFirst_43 rfl rfl ?_
    refine wp_dup dX0_dropFirst_44 (Or.inr rfl) ?_
    refine wp_get 16 rfl fl_RX0_40 rfl ⟨by omega, by omega⟩ dX0_dropFirst_45 rfl (v := 5) (h5) ?_
    refine wp_iconst dX0_dropFirst_48 (by decide) ?_
    refine wp_isub dX0_dropFirst_49 (by omega) ?_
    refine wp_puti 16 rfl fl_RX0_40 rfl ⟨by omega, by omega⟩ dX0_dropFirst_50 rfl rfl ?_
    refine wp_vret rfl dX0_dropFirst_53 ?_
    refine k _ (Fr.put (Fr.put (Fr.put (Fr.put (Fr.put Fr.rf (Or.inl rfl)) (Or.inl rfl)) (Or.inl rfl)) (Or.inl rfl)) (Or.inr ⟨rfl, rfl⟩)) ?_ ?_
    · show 5 - 1 = M 16 3 - 1
      omega
    · intro q hq
      rcases (show q = 0 ∨ q = 1 ∨ q = 2 ∨ q = 3 by omega) with rfl | rfl | rfl | rfl
      · rfl
      · rfl
      · rfl
      · rfl
