/-! ===== the class's own calls: people, the line ===== -/
def CJ (M : Mm) (A : Ls) : Prop := SR M ∧ txOK M ∧ Rc M 2 A ∧ Wf A ∧ 0 ≤ A.1 1 ∧ A.1 1 < M 25 1
def okSet (A : Ls) (w o v : Int) : Prop := (w = 0 ∧ 0 ≤ v ∧ v ≤ 999) ∨ (0 ≤ o ∧ o < A.1 2 ∧ ((w = 1 ∧ 0 ≤ v ∧ v ≤ 9) ∨ (w = 2 ∧ 0 ≤ v ∧ v ≤ 31 ∧ bnd (shr v o) 1 = 0) ∨ (w = 3 ∧ 0 ≤ v ∧ v ≤ 99) ∨ (w = 4 ∧ 0 ≤ v ∧ v ≤ 40)))
def setA (A : Ls) (r i : Nat) (v : Int) : Ls := (A.1, mu A.2 r i v)
def setS (A : Ls) (k : Nat) (v : Int) : Ls := (fun j => if j = k then v else A.1 j, A.2)
theorem Rc.setA {M : Mm} {L : Nat} {A : Ls} (h : Rc M L A) {r i : Nat} {v : Int} (hr : r < 5) : Rc (mu M (L + 1 + r) i v) L (setA A r i v) := by
  obtain ⟨h0, h1, h2, h3, hq, hl⟩ := h
  refine ⟨by rw [mu_ne _ _ _ (by omega)]; exact h0, by rw [mu_ne _ _ _ (by omega)]; exact h1, by rw [mu_ne _ _ _ (by omega)]; exact h2, by rw [mu_ne _ _ _ (by omega)]; exact h3, fun r2 i2 a b => ?_, fun q hq2 => ?_⟩
  · show _ = mu A.2 r i v r2 i2
    by_cases e : r2 = r
    · subst e
      by_cases e2 : i2 = i
      · subst e2; rw [mu_self, mu_self]
      · rw [mu_nj _ _ _ e2, mu_nj _ _ _ e2]; exact hq _ _ a b
    · rw [mu_ne _ _ _ (by omega), mu_ne _ _ _ e]; exact hq _ _ a b
  · show _ = mu A.2 r i v 5 q
    rw [mu_ne _ _ _ (by omega), mu_ne _ _ _ (by omega)]; exact hl q hq2
theorem Rc.setS {M : Mm} {L : Nat} {A : Ls} (h : Rc M L A) {k : Nat} {v : Int} (hk : k < 2) : Rc (mu M L k v) L (setS A k v) := by
  obtain ⟨h0, h1, h2, h3, hq, hl⟩ := h
  have e : ∀ j, j < 4 → M L j = A.1 j := fun j hj => by
    rcases (show j = 0 ∨ j = 1 ∨ j = 2 ∨ j = 3 by omega) with rfl | rfl | rfl | rfl <;> assumption
  have g : ∀ j, j < 4 → mu M L k v L j = (if j = k then v else A.1 j) := fun j hj => by
    by_cases c : j = k
    · subst c; rw [mu_self, if_pos rfl]
    · rw [mu_nj _ _ _ c, if_neg c]; exact e j hj
  refine ⟨g 0 (by omega), g 1 (by omega), g 2 (by omega), g 3 (by omega), fun r2 i2 a b => ?_, fun q hq2 => ?_⟩
  · rw [mu_ne _ _ _ (by omega)]
    have b : (i2 : Int) < (if 2 = k then v else A.1 2) := b
    rw [if_neg (by omega)] at b
    exact hq _ _ a b
  · rw [mu_ne _ _ _ (by omega)]
    have b : (q : Int) < (if 3 = k then v else A.1 3) := hq2
    rw [if_neg (by omega)] at b
    exact hl q b
set_option maxRecDepth 20000 in
set_option maxHeartbeats 4000000 in
theorem cs_set {l : Launch} {g : Gw} {d n : Nat} {M : Mm} {Q : Option Wd → Mm → Prop} (hn : 60 ≤ n) (hd : 10 ≤ d) {A : Ls} (hI : CJ M A) (w o v : Int) (kB : ¬ okSet A w o v → Q (some (0, -2)) M) (k0 : w = 0 → 0 ≤ v ∧ v ≤ 999 → Q (some (0, A.1 0)) (mu M 2 0 v)) (kr : ∀ r : Nat, 1 ≤ r → r ≤ 4 → w = (r : Int) → okSet A w o v → Q (some (0, A.2 r o.toNat)) (mu M (3 + r) o.toNat v)) : Wp l g d 0 0 n m_X7_set 0 [] [(2, 1), (0, w), (0, o), (0, v), (9, 0), (9, 0)] M Q := by
  obtain ⟨hR, hX, hA, hW, hr⟩ := id hI
  obtain ⟨a0, a1, a2, a3, ar, al⟩ := id hA
  obtain ⟨w0, w1, w2, w3, w4, w5, w6⟩ := id hW
  have hX1 := hX.1
  have hX2 := hX.2.1
  refine wp_iload_n dX7_set_0 rfl rfl ?_
  refine wp_if_ne (tgt := 10) dX7_set_1 (by decide) (fun h1 => ?_) (fun h1 => ?_)
  · refine wp_aload_n dX7_set_10 rfl rfl ?_
    refine wp_get 1 rfl fl_RX7_10 rfl ⟨by omega, by omega⟩ dX7_set_11 rfl (v := 2) (sr_1_0 (M := M) hR) ?_
    refine wp_iload_n dX7_set_14 rfl rfl ?_
    refine wp_callV0 (d' := d - 1) cv_RX7_83 2 rfl [(0, w)] [] rfl rfl (Or.inl ⟨_, _, rfl, by decide, rfl, by omega, by omega⟩) (by omega) (Nat.le_of_ble_eq_true rfl) dX7_set_15 rfl (Nat.le_of_ble_eq_true rfl) (by omega) (loc1 := [(2, 2), (0, w)]) rfl ?_
    refine sp_rowOf_2 hn hR w (fun hw => ?_) (fun hw => ?_) (fun hw => ?_) (fun hw => ?_) (fun hw => ?_)
    · subst hw
      refine wp_astore (loc' := [(2, 1), (0, 1), (0, o), (0, v), (2, 4), (9, 0)]) dX7_set_18 (Nat.le_of_ble_eq_true rfl) rfl ?_
      refine wp_aload dX7_set_20 rfl ?_
      refine wp_ifnull (tgt := 45) dX7_set_22 (by decide) (fun h => absurd h (by decide)) (fun _ => ?_)
      refine wp_aload_n dX7_set_25 rfl rfl ?_
      refine wp_get 1 rfl fl_RX7_10 rfl ⟨by omega, by omega⟩ dX7_set_26 rfl (v := 2) (sr_1_0 (M := M) hR) ?_
      refine wp_iload_n dX7_set_29 rfl rfl ?_
      refine wp_callV0 (d' := d - 1) cv_RX7_87 2 rfl [(0, o)] [] rfl rfl (Or.inl ⟨_, _, rfl, by decide, rfl, by omega, by omega⟩) (by omega) (Nat.le_of_ble_eq_true rfl) dX7_set_30 rfl (Nat.le_of_ble_eq_true rfl) (by omega) (loc1 := [(2, 2), (0, o)]) rfl ?_
      refine sp_has_2 hn o (fun h30 => ?_) (fun h30 => ?_)
      · refine wp_if_eq (tgt := 45) dX7_set_33 (by decide) (fun h => absurd h (by decide)) (fun _ => ?_)
        refine wp_iload_n dX7_set_36 rfl rfl ?_
        refine wp_iload_n dX7_set_37 rfl rfl ?_
        refine wp_iload_n dX7_set_38 rfl rfl ?_
        refine wp_callS0 (d' := d - 1) cs_RX7_91 [(0, 1), (0, o), (0, v)] [] rfl rfl (Nat.le_of_ble_eq_true rfl) dX7_set_39 rfl (Nat.le_of_ble_eq_true rfl) (by omega) (loc1 := [(0, 1), (0, o), (0, v)]) rfl ?_
        refine wp_iload_n dX7_canBe_0 rfl rfl ?_
        refine wp_tabIn dX7_canBe_1 0 rfl (by decide) rfl (tgt := 28) (by decide) ?_
        refine wp_iload_n dX7_canBe_28 rfl rfl ?_
        refine wp_if_lt (tgt := 42) dX7_canBe_29 (by decide) (fun h29 => ?_) (fun h29 => ?_)
        · refine wp_iconst dX7_canBe_42 (by decide) ?_
          refine wp_zret rfl (by omega) dX7_canBe_43 ?_
          refine wp_if_ne (tgt := 48) dX7_set_42 (by decide) (fun h => absurd h (by decide)) (fun _ => ?_)
          refine wp_bipush dX7_set_45 (by decide) (by decide) ?_
          refine wp_iret rfl dX7_set_47 ?_
          exact kB (by unfold okSet; omega)
        · refine wp_iload_n dX7_canBe_32 rfl rfl ?_
          refine wp_bipush dX7_canBe_33 (by decide) (by decide) ?_
          refine wp_icmp_ge (tgt := 42) dX7_canBe_35 (by decide) (fun h35 => ?_) (fun h35 => ?_)
          · refine wp_iconst dX7_canBe_42 (by decide) ?_
            refine wp_zret rfl (by omega) dX7_canBe_43 ?_
            refine wp_if_ne (tgt := 48) dX7_set_42 (by decide) (fun h => absurd h (by decide)) (fun _ => ?_)
            refine wp_bipush dX7_set_45 (by decide) (by decide) ?_
            refine wp_iret rfl dX7_set_47 ?_
            exact kB (by unfold okSet; omega)
          · refine wp_iconst dX7_canBe_38 (by decide) ?_
            refine wp_goto (tgt := 43) dX7_canBe_39 (by decide) ?_
            refine wp_zret rfl (by omega) dX7_canBe_43 ?_
            refine wp_if_ne (tgt := 48) dX7_set_42 (by decide) (fun _ => ?_) (fun h => absurd h (by decide))
            refine wp_aload dX7_set_48 rfl ?_
            refine wp_iload_n dX7_set_50 rfl rfl ?_
            refine wp_iald 4 rfl rfl ⟨by omega, by omega⟩ ⟨by omega, by omega⟩ dX7_set_51 (v := (M 4 (o).toNat)) (rfl) ?_
            refine wp_istore (loc' := [(2, 1), (0, 1), (0, o), (0, v), (2, 4), (0, (M 4 (o).toNat))]) dX7_set_52 (Nat.le_of_ble_eq_true rfl) rfl ?_
            refine wp_aload dX7_set_54 rfl ?_
            refine wp_iload_n dX7_set_56 rfl rfl ?_
            refine wp_iload_n dX7_set_57 rfl rfl ?_
            refine wp_iast 4 rfl rfl ⟨by omega, by omega⟩ ⟨by omega, by omega⟩ dX7_set_58 (jn := (o).toNat) rfl ?_
            refine wp_iload dX7_set_59 rfl ?_
            refine wp_iret rfl dX7_set_61 ?_
            exact (show M 4 o.toNat = A.2 1 o.toNat from ar 1 _ (by omega) (by omega)) ▸ kr 1 (by omega) (by omega) rfl (by unfold okSet; omega)
      · refine wp_if_eq (tgt := 45) dX7_set_33 (by decide) (fun _ => ?_) (fun h => absurd h (by decide))
        refine wp_bipush dX7_set_45 (by decide) (by decide) ?_
        refine wp_iret rfl dX7_set_47 ?_
        exact kB (by unfold okSet; omega)
    · subst hw
      refine wp_astore (loc' := [(2, 1), (0, 2), (0, o), (0, v), (2, 5), (9, 0)]) dX7_set_18 (Nat.le_of_ble_eq_true rfl) rfl ?_
      refine wp_aload dX7_set_20 rfl ?_
      refine wp_ifnull (tgt := 45) dX7_set_22 (by decide) (fun h => absurd h (by decide)) (fun _ => ?_)
      refine wp_aload_n dX7_set_25 rfl rfl ?_
      refine wp_get 1 rfl fl_RX7_10 rfl ⟨by omega, by omega⟩ dX7_set_26 rfl (v := 2) (sr_1_0 (M := M) hR) ?_
      refine wp_iload_n dX7_set_29 rfl rfl ?_
      refine wp_callV0 (d' := d - 1) cv_RX7_87 2 rfl [(0, o)] [] rfl rfl (Or.inl ⟨_, _, rfl, by decide, rfl, by omega, by omega⟩) (by omega) (Nat.le_of_ble_eq_true rfl) dX7_set_30 rfl (Nat.le_of_ble_eq_true rfl) (by omega) (loc1 := [(2, 2), (0, o)]) rfl ?_
      refine sp_has_2 hn o (fun h30 => ?_) (fun h30 => ?_)
      · refine wp_if_eq (tgt := 45) dX7_set_33 (by decide) (fun h => absurd h (by decide)) (fun _ => ?_)
        refine wp_iload_n dX7_set_36 rfl rfl ?_
        refine wp_iload_n dX7_set_37 rfl rfl ?_
        refine wp_iload_n dX7_set_38 rfl rfl ?_
        refine wp_callS0 (d' := d - 1) cs_RX7_91 [(0, 2), (0, o), (0, v)] [] rfl rfl (Nat.le_of_ble_eq_true rfl) dX7_set_39 rfl (Nat.le_of_ble_eq_true rfl) (by omega) (loc1 := [(0, 2), (0, o), (0, v)]) rfl ?_
        refine wp_iload_n dX7_canBe_0 rfl rfl ?_
        refine wp_tabIn dX7_canBe_1 1 rfl (by decide) rfl (tgt := 44) (by decide) ?_
        refine wp_iload_n dX7_canBe_44 rfl rfl ?_
        refine wp_if_lt (tgt := 66) dX7_canBe_45 (by decide) (fun h45 => ?_) (fun h45 => ?_)
        · refine wp_iconst dX7_canBe_66 (by decide) ?_
          refine wp_zret rfl (by omega) dX7_canBe_67 ?_
          refine wp_if_ne (tgt := 48) dX7_set_42 (by decide) (fun h => absurd h (by decide)) (fun _ => ?_)
          refine wp_bipush dX7_set_45 (by decide) (by decide) ?_
          refine wp_iret rfl dX7_set_47 ?_
          exact kB (by unfold okSet; omega)
        · refine wp_iload_n dX7_canBe_48 rfl rfl ?_
          refine wp_bipush dX7_canBe_49 (by decide) (by decide) ?_
          refine wp_icmp_ge (tgt := 66) dX7_canBe_51 (by decide) (fun h51 => ?_) (fun h51 => ?_)
          · refine wp_iconst dX7_canBe_66 (by decide) ?_
            refine wp_zret rfl (by omega) dX7_canBe_67 ?_
            refine wp_if_ne (tgt := 48) dX7_set_42 (by decide) (fun h => absurd h (by decide)) (fun _ => ?_)
            refine wp_bipush dX7_set_45 (by decide) (by decide) ?_
            refine wp_iret rfl dX7_set_47 ?_
            exact kB (by unfold okSet; omega)
          · refine wp_iload_n dX7_canBe_54 rfl rfl ?_
            refine wp_iload_n dX7_canBe_55 rfl rfl ?_
            refine wp_ishr dX7_canBe_56 ?_
            refine wp_iconst dX7_canBe_57 (by decide) ?_
            refine wp_iand dX7_canBe_58 ?_
            refine wp_if_ne (tgt := 66) dX7_canBe_59 (by decide) (fun h59 => ?_) (fun h59 => ?_)
            · refine wp_iconst dX7_canBe_66 (by decide) ?_
              refine wp_zret rfl (by omega) dX7_canBe_67 ?_
              refine wp_if_ne (tgt := 48) dX7_set_42 (by decide) (fun h => absurd h (by decide)) (fun _ => ?_)
              refine wp_bipush dX7_set_45 (by decide) (by decide) ?_
              refine wp_iret rfl dX7_set_47 ?_
              exact kB (by unfold okSet; omega)
            · refine wp_iconst dX7_canBe_62 (by decide) ?_
              refine wp_goto (tgt := 67) dX7_canBe_63 (by decide) ?_
              refine wp_zret rfl (by omega) dX7_canBe_67 ?_
              refine wp_if_ne (tgt := 48) dX7_set_42 (by decide) (fun _ => ?_) (fun h => absurd h (by decide))
              refine wp_aload dX7_set_48 rfl ?_
              refine wp_iload_n dX7_set_50 rfl rfl ?_
              refine wp_iald 5 rfl rfl ⟨by omega, by omega⟩ ⟨by omega, by omega⟩ dX7_set_51 (v := (M 5 (o).toNat)) (rfl) ?_
              refine wp_istore (loc' := [(2, 1), (0, 2), (0, o), (0, v), (2, 5), (0, (M 5 (o).toNat))]) dX7_set_52 (Nat.le_of_ble_eq_true rfl) rfl ?_
              refine wp_aload dX7_set_54 rfl ?_
              refine wp_iload_n dX7_set_56 rfl rfl ?_
              refine wp_iload_n dX7_set_57 rfl rfl ?_
              refine wp_iast 5 rfl rfl ⟨by omega, by omega⟩ ⟨by omega, by omega⟩ dX7_set_58 (jn := (o).toNat) rfl ?_
              refine wp_iload dX7_set_59 rfl ?_
              refine wp_iret rfl dX7_set_61 ?_
              exact (show M 5 o.toNat = A.2 2 o.toNat from ar 2 _ (by omega) (by omega)) ▸ kr 2 (by omega) (by omega) rfl (by unfold okSet; omega)
      · refine wp_if_eq (tgt := 45) dX7_set_33 (by decide) (fun _ => ?_) (fun h => absurd h (by decide))
        refine wp_bipush dX7_set_45 (by decide) (by decide) ?_
        refine wp_iret rfl dX7_set_47 ?_
        exact kB (by unfold okSet; omega)
    · subst hw
      refine wp_astore (loc' := [(2, 1), (0, 3), (0, o), (0, v), (2, 6), (9, 0)]) dX7_set_18 (Nat.le_of_ble_eq_true rfl) rfl ?_
      refine wp_aload dX7_set_20 rfl ?_
      refine wp_ifnull (tgt := 45) dX7_set_22 (by decide) (fun h => absurd h (by decide)) (fun _ => ?_)
      refine wp_aload_n dX7_set_25 rfl rfl ?_
      refine wp_get 1 rfl fl_RX7_10 rfl ⟨by omega, by omega⟩ dX7_set_26 rfl (v := 2) (sr_1_0 (M := M) hR) ?_
      refine wp_iload_n dX7_set_29 rfl rfl ?_
      refine wp_callV0 (d' := d - 1) cv_RX7_87 2 rfl [(0, o)] [] rfl rfl (Or.inl ⟨_, _, rfl, by decide, rfl, by omega, by omega⟩) (by omega) (Nat.le_of_ble_eq_true rfl) dX7_set_30 rfl (Nat.le_of_ble_eq_true rfl) (by omega) (loc1 := [(2, 2), (0, o)]) rfl ?_
      refine sp_has_2 hn o (fun h30 => ?_) (fun h30 => ?_)
      · refine wp_if_eq (tgt := 45) dX7_set_33 (by decide) (fun h => absurd h (by decide)) (fun _ => ?_)
        refine wp_iload_n dX7_set_36 rfl rfl ?_
        refine wp_iload_n dX7_set_37 rfl rfl ?_
        refine wp_iload_n dX7_set_38 rfl rfl ?_
        refine wp_callS0 (d' := d - 1) cs_RX7_91 [(0, 3), (0, o), (0, v)] [] rfl rfl (Nat.le_of_ble_eq_true rfl) dX7_set_39 rfl (Nat.le_of_ble_eq_true rfl) (by omega) (loc1 := [(0, 3), (0, o), (0, v)]) rfl ?_
        refine wp_iload_n dX7_canBe_0 rfl rfl ?_
        refine wp_tabIn dX7_canBe_1 2 rfl (by decide) rfl (tgt := 68) (by decide) ?_
        refine wp_iload_n dX7_canBe_68 rfl rfl ?_
        refine wp_if_lt (tgt := 82) dX7_canBe_69 (by decide) (fun h69 => ?_) (fun h69 => ?_)
        · refine wp_iconst dX7_canBe_82 (by decide) ?_
          refine wp_zret rfl (by omega) dX7_canBe_83 ?_
          refine wp_if_ne (tgt := 48) dX7_set_42 (by decide) (fun h => absurd h (by decide)) (fun _ => ?_)
          refine wp_bipush dX7_set_45 (by decide) (by decide) ?_
          refine wp_iret rfl dX7_set_47 ?_
          exact kB (by unfold okSet; omega)
        · refine wp_iload_n dX7_canBe_72 rfl rfl ?_
          refine wp_bipush dX7_canBe_73 (by decide) (by decide) ?_
          refine wp_icmp_gt (tgt := 82) dX7_canBe_75 (by decide) (fun h75 => ?_) (fun h75 => ?_)
          · refine wp_iconst dX7_canBe_82 (by decide) ?_
            refine wp_zret rfl (by omega) dX7_canBe_83 ?_
            refine wp_if_ne (tgt := 48) dX7_set_42 (by decide) (fun h => absurd h (by decide)) (fun _ => ?_)
            refine wp_bipush dX7_set_45 (by decide) (by decide) ?_
            refine wp_iret rfl dX7_set_47 ?_
            exact kB (by unfold okSet; omega)
          · refine wp_iconst dX7_canBe_78 (by decide) ?_
            refine wp_goto (tgt := 83) dX7_canBe_79 (by decide) ?_
            refine wp_zret rfl (by omega) dX7_canBe_83 ?_
            refine wp_if_ne (tgt := 48) dX7_set_42 (by decide) (fun _ => ?_) (fun h => absurd h (by decide))
            refine wp_aload dX7_set_48 rfl ?_
            refine wp_iload_n dX7_set_50 rfl rfl ?_
            refine wp_iald 6 rfl rfl ⟨by omega, by omega⟩ ⟨by omega, by omega⟩ dX7_set_51 (v := (M 6 (o).toNat)) (rfl) ?_
            refine wp_istore (loc' := [(2, 1), (0, 3), (0, o), (0, v), (2, 6), (0, (M 6 (o).toNat))]) dX7_set_52 (Nat.le_of_ble_eq_true rfl) rfl ?_
            refine wp_aload dX7_set_54 rfl ?_
            refine wp_iload_n dX7_set_56 rfl rfl ?_
            refine wp_iload_n dX7_set_57 rfl rfl ?_
            refine wp_iast 6 rfl rfl ⟨by omega, by omega⟩ ⟨by omega, by omega⟩ dX7_set_58 (jn := (o).toNat) rfl ?_
            refine wp_iload dX7_set_59 rfl ?_
            refine wp_iret rfl dX7_set_61 ?_
            exact (show M 6 o.toNat = A.2 3 o.toNat from ar 3 _ (by omega) (by omega)) ▸ kr 3 (by omega) (by omega) rfl (by unfold okSet; omega)
      · refine wp_if_eq (tgt := 45) dX7_set_33 (by decide) (fun _ => ?_) (fun h => absurd h (by decide))
        refine wp_bipush dX7_set_45 (by decide) (by decide) ?_
        refine wp_iret rfl dX7_set_47 ?_
        exact kB (by unfold okSet; omega)
    · subst hw
      refine wp_astore (loc' := [(2, 1), (0, 4), (0, o), (0, v), (2, 7), (9, 0)]) dX7_set_18 (Nat.le_of_ble_eq_true rfl) rfl ?_
      refine wp_aload dX7_set_20 rfl ?_
      refine wp_ifnull (tgt := 45) dX7_set_22 (by decide) (fun h => absurd h (by decide)) (fun _ => ?_)
      refine wp_aload_n dX7_set_25 rfl rfl ?_
      refine wp_get 1 rfl fl_RX7_10 rfl ⟨by omega, by omega⟩ dX7_set_26 rfl (v := 2) (sr_1_0 (M := M) hR) ?_
      refine wp_iload_n dX7_set_29 rfl rfl ?_
      refine wp_callV0 (d' := d - 1) cv_RX7_87 2 rfl [(0, o)] [] rfl rfl (Or.inl ⟨_, _, rfl, by decide, rfl, by omega, by omega⟩) (by omega) (Nat.le_of_ble_eq_true rfl) dX7_set_30 rfl (Nat.le_of_ble_eq_true rfl) (by omega) (loc1 := [(2, 2), (0, o)]) rfl ?_
      refine sp_has_2 hn o (fun h30 => ?_) (fun h30 => ?_)
      · refine wp_if_eq (tgt := 45) dX7_set_33 (by decide) (fun h => absurd h (by decide)) (fun _ => ?_)
        refine wp_iload_n dX7_set_36 rfl rfl ?_
        refine wp_iload_n dX7_set_37 rfl rfl ?_
        refine wp_iload_n dX7_set_38 rfl rfl ?_
        refine wp_callS0 (d' := d - 1) cs_RX7_91 [(0, 4), (0, o), (0, v)] [] rfl rfl (Nat.le_of_ble_eq_true rfl) dX7_set_39 rfl (Nat.le_of_ble_eq_true rfl) (by omega) (loc1 := [(0, 4), (0, o), (0, v)]) rfl ?_
        refine wp_iload_n dX7_canBe_0 rfl rfl ?_
        refine wp_tabOut dX7_canBe_1 (by decide) (tgt := 84) (by decide) ?_
        refine wp_iload_n dX7_canBe_84 rfl rfl ?_
        refine wp_if_lt (tgt := 98) dX7_canBe_85 (by decide) (fun h85 => ?_) (fun h85 => ?_)
        · refine wp_iconst dX7_canBe_98 (by decide) ?_
          refine wp_zret rfl (by omega) dX7_canBe_99 ?_
          refine wp_if_ne (tgt := 48) dX7_set_42 (by decide) (fun h => absurd h (by decide)) (fun _ => ?_)
          refine wp_bipush dX7_set_45 (by decide) (by decide) ?_
          refine wp_iret rfl dX7_set_47 ?_
          exact kB (by unfold okSet; omega)
        · refine wp_iload_n dX7_canBe_88 rfl rfl ?_
          refine wp_bipush dX7_canBe_89 (by decide) (by decide) ?_
          refine wp_icmp_gt (tgt := 98) dX7_canBe_91 (by decide) (fun h91 => ?_) (fun h91 => ?_)
          · refine wp_iconst dX7_canBe_98 (by decide) ?_
            refine wp_zret rfl (by omega) dX7_canBe_99 ?_
            refine wp_if_ne (tgt := 48) dX7_set_42 (by decide) (fun h => absurd h (by decide)) (fun _ => ?_)
            refine wp_bipush dX7_set_45 (by decide) (by decide) ?_
            refine wp_iret rfl dX7_set_47 ?_
            exact kB (by unfold okSet; omega)
          · refine wp_iconst dX7_canBe_94 (by decide) ?_
            refine wp_goto (tgt := 99) dX7_canBe_95 (by decide) ?_
            refine wp_zret rfl (by omega) dX7_canBe_99 ?_
            refine wp_if_ne (tgt := 48) dX7_set_42 (by decide) (fun _ => ?_) (fun h => absurd h (by decide))
            refine wp_aload dX7_set_48 rfl ?_
            refine wp_iload_n dX7_set_50 rfl rfl ?_
            refine wp_iald 7 rfl rfl ⟨by omega, by omega⟩ ⟨by omega, by omega⟩ dX7_set_51 (v := (M 7 (o).toNat)) (rfl) ?_
            refine wp_istore (loc' := [(2, 1), (0, 4), (0, o), (0, v), (2, 7), (0, (M 7 (o).toNat))]) dX7_set_52 (Nat.le_of_ble_eq_true rfl) rfl ?_
            refine wp_aload dX7_set_54 rfl ?_
            refine wp_iload_n dX7_set_56 rfl rfl ?_
            refine wp_iload_n dX7_set_57 rfl rfl ?_
            refine wp_iast 7 rfl rfl ⟨by omega, by omega⟩ ⟨by omega, by omega⟩ dX7_set_58 (jn := (o).toNat) rfl ?_
            refine wp_iload dX7_set_59 rfl ?_
            refine wp_iret rfl dX7_set_61 ?_
            exact (show M 7 o.toNat = A.2 4 o.toNat from ar 4 _ (by omega) (by omega)) ▸ kr 4 (by omega) (by omega) rfl (by unfold okSet; omega)
      · refine wp_if_eq (tgt := 45) dX7_set_33 (by decide) (fun _ => ?_) (fun h => absurd h (by decide))
        refine wp_bipush dX7_set_45 (by decide) (by decide) ?_
        refine wp_iret rfl dX7_set_47 ?_
        exact kB (by unfold okSet; omega)
    · refine wp_astore (loc' := [(2, 1), (0, w), (0, o), (0, v), (2, 0), (9, 0)]) dX7_set_18 (Nat.le_of_ble_eq_true rfl) rfl ?_
      refine wp_aload dX7_set_20 rfl ?_
      refine wp_ifnull (tgt := 45) dX7_set_22 (by decide) (fun _ => ?_) (fun h => absurd h (by decide))
      refine wp_bipush dX7_set_45 (by decide) (by decide) ?_
      refine wp_iret rfl dX7_set_47 ?_
      exact kB (by unfold okSet; omega)
  · refine wp_aload_n dX7_set_4 rfl rfl ?_
    refine wp_iload_n dX7_set_5 rfl rfl ?_
    refine wp_callV0 (d' := d - 1) cv_RX7_79 1 rfl [(0, v)] [] rfl rfl (Or.inl ⟨_, _, rfl, by decide, rfl, by omega, by omega⟩) (by omega) (Nat.le_of_ble_eq_true rfl) dX7_set_6 rfl (Nat.le_of_ble_eq_true rfl) (by omega) (loc1 := [(2, 1), (0, v), (9, 0)]) rfl ?_
    refine wp_iload_n dX7_changeMinute_0 rfl rfl ?_
    refine wp_if_lt (tgt := 11) dX7_changeMinute_1 (by decide) (fun h1 => ?_) (fun h1 => ?_)
    · refine wp_bipush dX7_changeMinute_11 (by decide) (by decide) ?_
      refine wp_iret rfl dX7_changeMinute_13 ?_
      refine wp_iret rfl dX7_set_9 ?_
      exact kB (by unfold okSet; omega)
    · refine wp_iload_n dX7_changeMinute_4 rfl rfl ?_
      refine wp_sipush dX7_changeMinute_5 (by decide) (by decide) ?_
      refine wp_icmp_le (tgt := 14) dX7_changeMinute_8 (by decide) (fun h8 => ?_) (fun h8 => ?_)
      · refine wp_aload_n dX7_changeMinute_14 rfl rfl ?_
        refine wp_get 1 rfl fl_RX7_10 rfl ⟨by omega, by omega⟩ dX7_changeMinute_15 rfl (v := 2) (sr_1_0 (M := M) hR) ?_
        refine wp_get 2 rfl fl_RX7_95 rfl ⟨by omega, by omega⟩ dX7_changeMinute_18 rfl (v := (M 2 0)) (rfl) ?_
        refine wp_istore_n (loc' := [(2, 1), (0, v), (0, (M 2 0))]) dX7_changeMinute_21 rfl (Nat.le_of_ble_eq_true rfl) rfl ?_
        refine wp_aload_n dX7_changeMinute_22 rfl rfl ?_
        refine wp_get 1 rfl fl_RX7_10 rfl ⟨by omega, by omega⟩ dX7_changeMinute_23 rfl (v := 2) (sr_1_0 (M := M) hR) ?_
        refine wp_iload_n dX7_changeMinute_26 rfl rfl ?_
        refine wp_puti 2 rfl fl_RX7_95 rfl ⟨by omega, by omega⟩ dX7_changeMinute_27 rfl rfl ?_
        refine wp_iload_n dX7_changeMinute_30 rfl rfl ?_
        refine wp_iret rfl dX7_changeMinute_31 ?_
        refine wp_iret rfl dX7_set_9 ?_
        exact a0 ▸ k0 (by omega) (by omega)
      · refine wp_bipush dX7_changeMinute_11 (by decide) (by decide) ?_
        refine wp_iret rfl dX7_changeMinute_13 ?_
        refine wp_iret rfl dX7_set_9 ?_
        exact kB (by unfold okSet; omega)
def bearA (A : Ls) (c u : Int) : Ls := (fun k => if k = 2 then A.1 2 + 1 else if k = 3 then A.1 3 + 1 else A.1 k, fun r i => if r = 5 then (if i = (A.1 3).toNat then A.1 2 else A.2 5 i) else if i = (A.1 2).toNat then (if r = 0 then c else if r = 1 then u else 0) else A.2 r i)
def bearM (M : Mm) (c u : Int) : Mm := mu (mu (mu (mu (mu (mu (mu (mu M 3 (M 2 2).toNat c) 4 (M 2 2).toNat u) 5 (M 2 2).toNat 0) 6 (M 2 2).toNat 0) 7 (M 2 2).toNat 0) 2 2 (M 2 2 + 1)) 8 (M 2 3).toNat (M 2 2)) 2 3 (M 2 3 + 1)
theorem Rc.bear {M : Mm} {A : Ls} (h : Rc M 2 A) (hW : Wf A) (c u : Int) : Rc (bearM M c u) 2 (bearA A c u) := by
  obtain ⟨h0, h1, h2, h3, hq, hl⟩ := h
  obtain ⟨w0, w1, w2, w3, -⟩ := hW
  unfold bearM
  rw [h2, h3]
  refine ⟨h0, h1, rfl, rfl, fun r i a b => ?_, fun q hq2 => ?_⟩
  · have b : (i : Int) < A.1 2 + 1 := b
    have key : ∀ (r : Nat), r < 5 → M (3 + r) i = A.2 r i ∨ i = (A.1 2).toNat := fun r hr => by
      by_cases c : i = (A.1 2).toNat
      · exact Or.inr c
      · exact Or.inl (by have := hq r i hr (by omega); rw [show 2 + 1 + r = 3 + r by omega] at this; exact this)
    show _ = (if r = 5 then _ else if i = (A.1 2).toNat then (if r = 0 then c else if r = 1 then u else 0) else A.2 r i)
    rw [if_neg (by omega)]
    rcases (show r = 0 ∨ r = 1 ∨ r = 2 ∨ r = 3 ∨ r = 4 by omega) with rfl | rfl | rfl | rfl | rfl
    · rcases key 0 (by omega) with e | e
      · by_cases c2 : i = (A.1 2).toNat
        · rw [if_pos c2]; simp [mu, c2]
        · rw [if_neg c2]; simp [mu, c2]; exact e
      · rw [if_pos e]; simp [mu, e]
    · rcases key 1 (by omega) with e | e
      · by_cases c2 : i = (A.1 2).toNat
        · rw [if_pos c2]; simp [mu, c2]
        · rw [if_neg c2]; simp [mu, c2]; exact e
      · rw [if_pos e]; simp [mu, e]
    · rcases key 2 (by omega) with e | e
      · by_cases c2 : i = (A.1 2).toNat
        · rw [if_pos c2]; simp [mu, c2]
        · rw [if_neg c2]; simp [mu, c2]; exact e
      · rw [if_pos e]; simp [mu, e]
    · rcases key 3 (by omega) with e | e
      · by_cases c2 : i = (A.1 2).toNat
        · rw [if_pos c2]; simp [mu, c2]
        · rw [if_neg c2]; simp [mu, c2]; exact e
      · rw [if_pos e]; simp [mu, e]
    · rcases key 4 (by omega) with e | e
      · by_cases c2 : i = (A.1 2).toNat
        · rw [if_pos c2]; simp [mu, c2]
        · rw [if_neg c2]; simp [mu, c2]; exact e
      · rw [if_pos e]; simp [mu, e]
  · have b : (q : Int) < A.1 3 + 1 := hq2
    show _ = (if q = (A.1 3).toNat then A.1 2 else A.2 5 q)
    by_cases c2 : q = (A.1 3).toNat
    · rw [if_pos c2]; simp [mu, c2]
    · rw [if_neg c2]; simp [mu, c2]; exact hl q (by omega)
set_option maxRecDepth 20000 in
set_option maxHeartbeats 4000000 in
theorem cs_person {l : Launch} {g : Gw} {d n : Nat} {M : Mm} {Q : Option Wd → Mm → Prop} (hn : 60 ≤ n) (hd : 10 ≤ d) {A : Ls} (hI : CJ M A) (x y : Int) (kB : ¬ (0 ≤ x ∧ x ≤ 5 ∧ 0 ≤ y ∧ y ≤ 9) → Q (some (0, -2)) M) (kF : (0 ≤ x ∧ x ≤ 5 ∧ 0 ≤ y ∧ y ≤ 9) → M 2 2 = 5 → Q (some (0, -4)) M) (k : (0 ≤ x ∧ x ≤ 5 ∧ 0 ≤ y ∧ y ≤ 9) → M 2 2 < 5 → Q (some (0, M 2 2)) (bearM M x y)) : Wp l g d 0 0 n m_X7_person 0 [] [(2, 1), (0, x), (0, y)] M Q := by
  obtain ⟨hR, hX, hA, hW, hr⟩ := id hI
  obtain ⟨a0, a1, a2, a3, ar, al⟩ := id hA
  obtain ⟨w0, w1, w2, w3, w4, w5, w6⟩ := id hW
  have hX1 := hX.1
  have hX2 := hX.2.1
  refine wp_iload_n dX7_person_0 rfl rfl ?_
  refine wp_if_lt (tgt := 20) dX7_person_1 (by decide) (fun h1 => ?_) (fun h1 => ?_)
  · refine wp_bipush dX7_person_20 (by decide) (by decide) ?_
    refine wp_iret rfl dX7_person_22 ?_
    exact kB (by omega)
  · refine wp_iload_n dX7_person_4 rfl rfl ?_
    refine wp_bipush dX7_person_5 (by decide) (by decide) ?_
    refine wp_icmp_ge (tgt := 20) dX7_person_7 (by decide) (fun h7 => ?_) (fun h7 => ?_)
    · refine wp_bipush dX7_person_20 (by decide) (by decide) ?_
      refine wp_iret rfl dX7_person_22 ?_
      exact kB (by omega)
    · refine wp_iload_n dX7_person_10 rfl rfl ?_
      refine wp_if_lt (tgt := 20) dX7_person_11 (by decide) (fun h11 => ?_) (fun h11 => ?_)
      · refine wp_bipush dX7_person_20 (by decide) (by decide) ?_
        refine wp_iret rfl dX7_person_22 ?_
        exact kB (by omega)
      · refine wp_iload_n dX7_person_14 rfl rfl ?_
        refine wp_bipush dX7_person_15 (by decide) (by decide) ?_
        refine wp_icmp_lt (tgt := 23) dX7_person_17 (by decide) (fun h17 => ?_) (fun h17 => ?_)
        · refine wp_aload_n dX7_person_23 rfl rfl ?_
          refine wp_get 1 rfl fl_RX7_10 rfl ⟨by omega, by omega⟩ dX7_person_24 rfl (v := 2) (sr_1_0 (M := M) hR) ?_
          refine wp_iload_n dX7_person_27 rfl rfl ?_
          refine wp_iload_n dX7_person_28 rfl rfl ?_
          refine wp_callV0 (d' := d - 1) cv_RX7_99 2 rfl [(0, x), (0, y)] [] rfl rfl (Or.inl ⟨_, _, rfl, by decide, rfl, by omega, by omega⟩) (by omega) (Nat.le_of_ble_eq_true rfl) dX7_person_29 rfl (Nat.le_of_ble_eq_true rfl) (by omega) (loc1 := [(2, 2), (0, x), (0, y), (9, 0)]) rfl ?_
          refine sp_bear_2 hn (by omega) hR x y (fun hF => ?_) (by omega) (by omega) (by omega) (fun hF => ?_)
          · refine wp_iret rfl dX7_person_32 ?_
            exact kF (by omega) (by omega)
          · refine wp_iret rfl dX7_person_32 ?_
            exact k (by omega) (by omega)
        · refine wp_bipush dX7_person_20 (by decide) (by decide) ?_
          refine wp_iret rfl dX7_person_22 ?_
          exact kB (by omega)
set_option maxRecDepth 20000 in
set_option maxHeartbeats 4000000 in
theorem cs_first {l : Launch} {g : Gw} {d n : Nat} {M : Mm} {Q : Option Wd → Mm → Prop} (hn : 60 ≤ n) (hd : 10 ≤ d) {A : Ls} (hI : CJ M A) (x : Int) (kB : ¬ (0 ≤ x ∧ x ≤ 4) → Q (some (0, -2)) M) (kN : (0 ≤ x ∧ x ≤ 4) → A.1 3 ≤ x → Q (some (0, -1)) M) (k : (0 ≤ x ∧ x ≤ 4) → x < A.1 3 → Q (some (0, A.2 5 x.toNat)) M) : Wp l g d 0 0 n m_X7_first 0 [] [(2, 1), (0, x)] M Q := by
  obtain ⟨hR, hX, hA, hW, hr⟩ := id hI
  obtain ⟨a0, a1, a2, a3, ar, al⟩ := id hA
  obtain ⟨w0, w1, w2, w3, w4, w5, w6⟩ := id hW
  have hX1 := hX.1
  have hX2 := hX.2.1
  refine wp_iload_n dX7_first_0 rfl rfl ?_
  refine wp_if_lt (tgt := 9) dX7_first_1 (by decide) (fun h1 => ?_) (fun h1 => ?_)
  · refine wp_bipush dX7_first_9 (by decide) (by decide) ?_
    refine wp_goto (tgt := 22) dX7_first_11 (by decide) ?_
    refine wp_iret rfl dX7_first_22 ?_
    exact kB (by omega)
  · refine wp_iload_n dX7_first_4 rfl rfl ?_
    refine wp_iconst dX7_first_5 (by decide) ?_
    refine wp_icmp_lt (tgt := 14) dX7_first_6 (by decide) (fun h6 => ?_) (fun h6 => ?_)
    · refine wp_aload_n dX7_first_14 rfl rfl ?_
      refine wp_get 1 rfl fl_RX7_10 rfl ⟨by omega, by omega⟩ dX7_first_15 rfl (v := 2) (sr_1_0 (M := M) hR) ?_
      refine wp_iload_n dX7_first_18 rfl rfl ?_
      refine wp_callV0 (d' := d - 1) cv_RX7_142 2 rfl [(0, x)] [] rfl rfl (Or.inl ⟨_, _, rfl, by decide, rfl, by omega, by omega⟩) (by omega) (Nat.le_of_ble_eq_true rfl) dX7_first_19 rfl (Nat.le_of_ble_eq_true rfl) (by omega) (loc1 := [(2, 2), (0, x)]) rfl ?_
      refine sp_at_2 hn hR x (fun hl => ?_) (fun hl => ?_)
      · refine wp_iret rfl dX7_first_22 ?_
        exact (show M 8 x.toNat = A.2 5 x.toNat from al _ (by omega)) ▸ k (by omega) (by omega)
      · refine wp_iret rfl dX7_first_22 ?_
        exact kN (by omega) (by omega)
    · refine wp_bipush dX7_first_9 (by decide) (by decide) ?_
      refine wp_goto (tgt := 22) dX7_first_11 (by decide) ?_
      refine wp_iret rfl dX7_first_22 ?_
      exact kB (by omega)
def plA (A : Ls) (x : Int) : Int := fst_ (A.2 5) x (A.1 3).toNat 0
theorem pl_eq {M : Mm} {L : Nat} {A : Ls} (h : Rc M L A) (x : Int) (h0 : 0 ≤ A.1 3) : fst_ (M (L + 6)) x (M L 3).toNat 0 = plA A x := by
  rw [h.2.2.2.1]
  exact fst_cong _ _ (fun q a b => h.2.2.2.2.2 q (by omega))
set_option maxRecDepth 20000 in
set_option maxHeartbeats 4000000 in
theorem cs_pass {l : Launch} {g : Gw} {d n : Nat} {M : Mm} {Q : Option Wd → Mm → Prop} (hn : 60 ≤ n) (hd : 10 ≤ d) {A : Ls} (hI : CJ M A) (x : Int) (kB : ¬ (0 ≤ x ∧ x < A.1 2) → Q (some (0, -2)) M) (kS : (0 ≤ x ∧ x < A.1 2) → ¬ cpA (evC M) A (plA A x) → ∀ M', Fr VX M M' → SR M' → Q (some (0, -3)) M') (k : (0 ≤ x ∧ x < A.1 2) → cpA (evC M) A (plA A x) → ∀ M', Rc M' 2 (swapA A (plA A x).toNat) → Fr VH M M' → SR M' → Q (some (0, plA A x - 1)) M') : Wp l g d 0 0 n m_X7_pass 0 [] [(2, 1), (0, x), (9, 0)] M Q := by
  obtain ⟨hR, hX, hA, hW, hr⟩ := id hI
  obtain ⟨a0, a1, a2, a3, ar, al⟩ := id hA
  obtain ⟨w0, w1, w2, w3, w4, w5, w6⟩ := id hW
  have hX1 := hX.1
  have hX2 := hX.2.1
  refine wp_aload_n dX7_pass_0 rfl rfl ?_
  refine wp_get 1 rfl fl_RX7_10 rfl ⟨by omega, by omega⟩ dX7_pass_1 rfl (v := 2) (sr_1_0 (M := M) hR) ?_
  refine wp_iload_n dX7_pass_4 rfl rfl ?_
  refine wp_callV0 (d' := d - 1) cv_RX7_87 2 rfl [(0, x)] [] rfl rfl (Or.inl ⟨_, _, rfl, by decide, rfl, by omega, by omega⟩) (by omega) (Nat.le_of_ble_eq_true rfl) dX7_pass_5 rfl (Nat.le_of_ble_eq_true rfl) (by omega) (loc1 := [(2, 2), (0, x)]) rfl ?_
  refine sp_has_2 hn x (fun h5 => ?_) (fun h5 => ?_)
  · refine wp_if_ne (tgt := 14) dX7_pass_8 (by decide) (fun _ => ?_) (fun h => absurd h (by decide))
    refine wp_aload_n dX7_pass_14 rfl rfl ?_
    refine wp_get 1 rfl fl_RX7_10 rfl ⟨by omega, by omega⟩ dX7_pass_15 rfl (v := 2) (sr_1_0 (M := M) hR) ?_
    refine wp_iload_n dX7_pass_18 rfl rfl ?_
    refine wp_callV0 (d' := d - 1) cv_RX7_115 2 rfl [(0, x)] [] rfl rfl (Or.inl ⟨_, _, rfl, by decide, rfl, by omega, by omega⟩) (by omega) (Nat.le_of_ble_eq_true rfl) dX7_pass_19 rfl (Nat.le_of_ble_eq_true rfl) (by omega) (loc1 := [(2, 2), (0, x), (9, 0)]) rfl ?_
    refine sp_placeOf_2 hn hR x (by omega) (by omega) ?_
    rw [show fst_ (M 8) x (M 2 3).toNat 0 = plA A x from pl_eq hA x (by omega)]
    have hpr : plA A x = -1 ∨ (0 ≤ plA A x ∧ plA A x < A.1 3) := by
      rcases fst_r (f := A.2 5) (x := x) (A.1 3).toNat 0 with e | ⟨q, q1, q2, e, -⟩
      · exact Or.inl e
      · exact Or.inr (by unfold plA; omega)
    refine wp_istore_n (loc' := [(2, 1), (0, x), (0, (plA A x))]) dX7_pass_22 rfl (Nat.le_of_ble_eq_true rfl) rfl ?_
    refine wp_aload_n dX7_pass_23 rfl rfl ?_
    refine wp_get 1 rfl fl_RX7_41 rfl ⟨by omega, by omega⟩ dX7_pass_24 rfl (v := 51) (sr_1_6 (M := M) hR) ?_
    refine wp_aload_n dX7_pass_27 rfl rfl ?_
    refine wp_get 1 rfl fl_RX7_10 rfl ⟨by omega, by omega⟩ dX7_pass_28 rfl (v := 2) (sr_1_0 (M := M) hR) ?_
    refine wp_iload_n dX7_pass_31 rfl rfl ?_
    refine wp_callV0 (d' := d - 1) cv_RX7_145 51 rfl [(2, 2), (0, (plA A x))] [] rfl rfl (Or.inl ⟨_, _, rfl, by decide, rfl, by omega, by omega⟩) (by omega) (Nat.le_of_ble_eq_true rfl) dX7_pass_32 rfl (Nat.le_of_ble_eq_true rfl) (by omega) (loc1 := [(2, 51), (2, 2), (0, (plA A x)), (9, 0)]) rfl ?_
    refine sp_canPass hn (by omega) hR hX hA hW hr (plA A x) (fun hc M1 hF1 hR1 => ?_) (fun hc M1 hF1 hR1 => ?_)
    · refine wp_if_ne (tgt := 41) dX7_pass_35 (by decide) (fun _ => ?_) (fun h => absurd h (by decide))
      refine wp_aload_n dX7_pass_41 rfl rfl ?_
      refine wp_get 1 rfl fl_RX7_10 rfl ⟨by omega, by omega⟩ dX7_pass_42 rfl (v := 2) (sr_1_0 (M := M1) hR1) ?_
      refine wp_iload_n dX7_pass_45 rfl rfl ?_
      refine wp_callV0 (d' := d - 1) cv_RX7_149 2 rfl [(0, (plA A x))] [] rfl rfl (Or.inl ⟨_, _, rfl, by decide, rfl, by omega, by omega⟩) (by omega) (Nat.le_of_ble_eq_true rfl) dX7_pass_46 rfl (Nat.le_of_ble_eq_true rfl) (by omega) (loc1 := [(2, 2), (0, (plA A x)), (9, 0)]) rfl ?_
      have hA1 := hA.fr (by omega) hF1
      have g3 : M1 2 3 = A.1 3 := hA1.2.2.2.1
      have hc1 := hc.1
      have hc2 := hc.2.1
      refine sp_moveUp_2 hn hR1 (plA A x) (by omega) (by omega) (by omega) ?_
      have hA2 := hA1.swap (p := (plA A x).toNat) (by omega) (by omega)
      have f2 : Fr VH M (mu (mu M1 8 (plA A x).toNat (M1 8 ((plA A x).toNat - 1))) 8 ((plA A x).toNat - 1) (M1 8 (plA A x).toNat)) := ((hF1.mono (V' := VH) (fun i j h => Or.inl h)).put (Or.inr rfl)).put (Or.inr rfl)
      rw [show (plA A x - 1).toNat = (plA A x).toNat - 1 by omega]
      refine wp_iload_n dX7_pass_49 rfl rfl ?_
      refine wp_iconst dX7_pass_50 (by decide) ?_
      refine wp_isub dX7_pass_51 (by omega) ?_
      refine wp_iret rfl dX7_pass_52 ?_
      exact k (by omega) hc _ hA2 f2 (SR.row (by decide) (SR.row (by decide) hR1))
    · refine wp_if_ne (tgt := 41) dX7_pass_35 (by decide) (fun h => absurd h (by decide)) (fun _ => ?_)
      refine wp_bipush dX7_pass_38 (by decide) (by decide) ?_
      refine wp_iret rfl dX7_pass_40 ?_
      exact kS (by omega) hc M1 hF1 hR1
  · refine wp_if_ne (tgt := 14) dX7_pass_8 (by decide) (fun h => absurd h (by decide)) (fun _ => ?_)
    refine wp_bipush dX7_pass_11 (by decide) (by decide) ?_
    refine wp_iret rfl dX7_pass_13 ?_
    exact kB (by omega)
set_option maxRecDepth 20000 in
set_option maxHeartbeats 4000000 in
theorem cs_haste {l : Launch} {g : Gw} {d n : Nat} {M : Mm} {Q : Option Wd → Mm → Prop} (hn : 60 ≤ n) (hd : 10 ≤ d) {A : Ls} (hI : CJ M A) (k : ∀ M', Rc M' 2 (hstA (evC M) 4 1 A).1 → Fr VH M M' → SR M' → Q (some (0, (hstA (evC M) 4 1 A).2)) M') : Wp l g d 0 0 n m_X7_haste 0 [] [(2, 1)] M Q := by
  obtain ⟨hR, hX, hA, hW, hr⟩ := id hI
  obtain ⟨a0, a1, a2, a3, ar, al⟩ := id hA
  obtain ⟨w0, w1, w2, w3, w4, w5, w6⟩ := id hW
  have hX1 := hX.1
  have hX2 := hX.2.1
  refine wp_aload_n dX7_haste_0 rfl rfl ?_
  refine wp_get 1 rfl fl_RX7_41 rfl ⟨by omega, by omega⟩ dX7_haste_1 rfl (v := 51) (sr_1_6 (M := M) hR) ?_
  refine wp_aload_n dX7_haste_4 rfl rfl ?_
  refine wp_get 1 rfl fl_RX7_10 rfl ⟨by omega, by omega⟩ dX7_haste_5 rfl (v := 2) (sr_1_0 (M := M) hR) ?_
  refine wp_callV0 (d' := d - 1) cv_RX7_153 51 rfl [(2, 2)] [] rfl rfl (Or.inl ⟨_, _, rfl, by decide, rfl, by omega, by omega⟩) (by omega) (Nat.le_of_ble_eq_true rfl) dX7_haste_8 rfl (Nat.le_of_ble_eq_true rfl) (by omega) (loc1 := [(2, 51), (2, 2), (9, 0), (9, 0)]) rfl ?_
  refine sp_hasten hn (by omega) hR hX hA hW hr (fun M1 a1 a2 a3 => ?_)
  refine wp_iret rfl dX7_haste_11 ?_
  exact k M1 a1 a2 a3
set_option maxRecDepth 20000 in
set_option maxHeartbeats 4000000 in
theorem cs_minute {l : Launch} {g : Gw} {d n : Nat} {M : Mm} {Q : Option Wd → Mm → Prop} (hn : 60 ≤ n) (hd : 10 ≤ d) {A : Ls} (hI : CJ M A) (kS : 999 ≤ A.1 0 → Q (some (0, -3)) M) (k : A.1 0 < 999 → ∀ M', Rc M' 2 (tickA (evC M) A).1 → Fr (VG 2) M M' → SR M' → Q (some (0, (tickA (evC M) A).2)) M') : Wp l g d 0 0 n m_X7_minute 0 [] [(2, 1)] M Q := by
  obtain ⟨hR, hX, hA, hW, hr⟩ := id hI
  obtain ⟨a0, a1, a2, a3, ar, al⟩ := id hA
  obtain ⟨w0, w1, w2, w3, w4, w5, w6⟩ := id hW
  have hX1 := hX.1
  have hX2 := hX.2.1
  refine wp_aload_n dX7_minute_0 rfl rfl ?_
  refine wp_get 1 rfl fl_RX7_10 rfl ⟨by omega, by omega⟩ dX7_minute_1 rfl (v := 2) (sr_1_0 (M := M) hR) ?_
  refine wp_get 2 rfl fl_RX7_95 rfl ⟨by omega, by omega⟩ dX7_minute_4 rfl (v := (M 2 0)) (rfl) ?_
  refine wp_sipush dX7_minute_7 (by decide) (by decide) ?_
  refine wp_icmp_lt (tgt := 18) dX7_minute_10 (by decide) (fun h10 => ?_) (fun h10 => ?_)
  · refine wp_aload_n dX7_minute_18 rfl rfl ?_
    refine wp_get 1 rfl fl_RX7_41 rfl ⟨by omega, by omega⟩ dX7_minute_19 rfl (v := 51) (sr_1_6 (M := M) hR) ?_
    refine wp_aload_n dX7_minute_22 rfl rfl ?_
    refine wp_get 1 rfl fl_RX7_10 rfl ⟨by omega, by omega⟩ dX7_minute_23 rfl (v := 2) (sr_1_0 (M := M) hR) ?_
    refine wp_callV0 (d' := d - 1) cv_RX7_157 51 rfl [(2, 2)] [] rfl rfl (Or.inl ⟨_, _, rfl, by decide, rfl, by omega, by omega⟩) (by omega) (Nat.le_of_ble_eq_true rfl) dX7_minute_26 rfl (Nat.le_of_ble_eq_true rfl) (by omega) (loc1 := [(2, 51), (2, 2), (9, 0), (9, 0), (9, 0)]) rfl ?_
    refine sp_goOn_2 hn (by omega) hR hX hA hW hr (fun M1 b1 b2 b3 => ?_)
    refine wp_iret rfl dX7_minute_29 ?_
    exact k (by omega) M1 b1 b2 b3
  · refine wp_bipush dX7_minute_13 (by decide) (by decide) ?_
    refine wp_goto (tgt := 29) dX7_minute_15 (by decide) ?_
    refine wp_iret rfl dX7_minute_29 ?_
    exact kS (by omega)
