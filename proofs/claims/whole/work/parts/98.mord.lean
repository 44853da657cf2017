/-! ===== the model: the best order, walls, rings, orders, fewest ===== -/
def bstM (E : Ev) (A : Ls) : Nat → Nat → Nat → Nat
  | 0, _, b => b
  | m + 1, i, b => bstM E A m (i + 1) (if wA E A i < wA E A b ∨ (wA E A i = wA E A b ∧ (awA E A i < awA E A b ∨ (awA E A i = awA E A b ∧ dgA E A i < dgA E A b))) then i else b)
theorem bstM_lt {E : Ev} {A : Ls} {n : Nat} : ∀ m i b : Nat, i + m = n → b < n → bstM E A m i b < n
  | 0, _, _, _, h => h
  | m + 1, i, b, h1, h2 => by
    unfold bstM
    split
    · exact bstM_lt m (i + 1) i (by omega) (by omega)
    · exact bstM_lt m (i + 1) b (by omega) h2
theorem GS.fr {M M' : Mm} {x0 : Od} {S : St} (h : GS M x0 S) (e1 : M' 69 30 = M 69 30) (e2 : ∀ j, M' 76 j = M 76 j) (e3 : ∀ j, M' 77 j = M 77 j) (e4 : M' 69 33 = M 69 33) : GS M' x0 S := ⟨h.1.fr e1 e2 e3, e4.trans h.2.1, h.2.2⟩
theorem GJ.f79 {M M' : Mm} {A : Ls} {E : Ev} (h : GJ M A E) (f : Fr V79 M M') : GJ M' A E := ⟨h.1.fro (f.mono V79.o), h.2.fr (f _ _ (by unfold V79; omega)) (fun j => f _ _ (by unfold V79; omega)) (fun j => f _ _ (by unfold V79; omega)) (f _ _ (by unfold V79; omega))⟩
theorem GJ.fx {M M' : Mm} {A : Ls} {E : Ev} (h : GJ M A E) (f : Fr VMx M M') : GJ M' A E := ⟨h.1.fro (f.mono VMx.o), h.2.fr (f _ _ (by unfold VMx VMs; omega)) (fun j => f _ _ (by unfold VMx VMs; omega)) (fun j => f _ _ (by unfold VMx VMs; omega)) (f _ _ (by unfold VMx VMs; omega))⟩
theorem GJ.ix {M : Mm} {A : Ls} {E : Ev} (h : GJ M A E) {i : Nat} (hi : i < (flA E A).length) : (odA E A i).Perm (lnA A) ∧ okO (lnA A).length (odA E A i) ∧ (∀ a ∈ odA E A i, 0 ≤ a ∧ a < A.1 2) := by
  have hp : (odA E A i).Perm (lnA A) := h.2.2.2.1.2 _ (List.mem_map.mpr ⟨(flA E A)[i], List.getElem_mem hi, by simp [odA, List.getD_eq_getElem?_getD, List.getElem?_eq_getElem hi]⟩)
  have hk := lnA_ok h.1.2.2.1
  exact ⟨hp, perm_ok hk.1 hp, fun a ha => hk.2.2 a (hp.subset ha)⟩
theorem GJ.at {M : Mm} {A : Ls} {E : Ev} (h : GJ M A E) {i : Nat} (hi : i < (flA E A).length) : M 76 i = dgA E A i ∧ M 77 i = awA E A i := h.2.1.2 i hi
set_option maxRecDepth 20000 in
set_option maxHeartbeats 4000000 in
theorem lp_bam  {l : Launch} {g : Gw} {d n : Nat} (hn : 90 ≤ n) (hd : 74 ≤ d) {E : Ev} {A : Ls} {N2 : Nat} (hN2 : A.1 2 = (N2 : Int)) : ∀ (m i b : Nat) (u3 u4 u5 : Wd) (M : Mm) (Q : Option Wd → Mm → Prop), i + m = (flA E A).length → b < (flA E A).length → 1 ≤ i → GJ M A E → WtM M E A N2 → (∀ M', GJ M' A E → WtM M' E A N2 → Fr V79 M M' → Q (some (0, (bstM E A m i b : Int))) M') → Wp l g d 0 0 n m_X8_bestAt 8 [] [(2, 69), (0, (b : Int)), (0, (i : Int)), u3, u4, u5] M Q := by
  intro m
  induction m with
  | zero =>
    intro i b u3 u4 u5 M Q hm hb h1 hG hWt k
    obtain ⟨hI, hS⟩ := id hG
    obtain ⟨hR, hA, hW, hr, hX⟩ := id hI
    have w2 := hW.1
    have w5 := hW.2.1
    have w3 := hW.2.2.1
    have w32 := hW.2.2.2.1
    have hok := lnA_ok hW
    have hll := lnA_len A
    have hN3 : A.1 3 = ((lnA A).length : Int) := by omega
    have h120 : (flA E A).length ≤ 120 := hS.2.2.1.le hok.2.1
    have h30 : M 69 30 = ((flA E A).length : Int) := hS.1.1
    refine wp_iload_n dX8_bestAt_8 rfl rfl ?_
    refine wp_aload_n dX8_bestAt_9 rfl rfl ?_
    refine wp_get 69 rfl fl_RX8_371 rfl ⟨by omega, by omega⟩ dX8_bestAt_10 rfl (v := ((flA E A).length : Int)) (hG.2.1.1) ?_
    refine wp_icmp_ge (tgt := 120) dX8_bestAt_13 (by decide) (fun _ => ?_) (fun h => absurd h (by omega))
    refine wp_iload_n dX8_bestAt_120 rfl rfl ?_
    refine wp_iret rfl dX8_bestAt_121 ?_
    exact k M hG hWt Fr.rf
  | succ m ih =>
    intro i b u3 u4 u5 M Q hm hb h1 hG hWt k
    obtain ⟨hI, hS⟩ := id hG
    obtain ⟨hR, hA, hW, hr, hX⟩ := id hI
    have w2 := hW.1
    have w5 := hW.2.1
    have w3 := hW.2.2.1
    have w32 := hW.2.2.2.1
    have hok := lnA_ok hW
    have hll := lnA_len A
    have hN3 : A.1 3 = ((lnA A).length : Int) := by omega
    have h120 : (flA E A).length ≤ 120 := hS.2.2.1.le hok.2.1
    have h30 : M 69 30 = ((flA E A).length : Int) := hS.1.1
    refine wp_iload_n dX8_bestAt_8 rfl rfl ?_
    refine wp_aload_n dX8_bestAt_9 rfl rfl ?_
    refine wp_get 69 rfl fl_RX8_371 rfl ⟨by omega, by omega⟩ dX8_bestAt_10 rfl (v := ((flA E A).length : Int)) (hG.2.1.1) ?_
    refine wp_icmp_ge (tgt := 120) dX8_bestAt_13 (by decide) (fun h => absurd h (by omega)) (fun _ => ?_)
    refine wp_aload_n dX8_bestAt_16 rfl rfl ?_
    refine wp_aload_n dX8_bestAt_17 rfl rfl ?_
    refine wp_get 69 rfl fl_RX8_32 rfl ⟨by omega, by omega⟩ dX8_bestAt_18 rfl (v := 76) (sr_69_28 (M := M) hR) ?_
    refine wp_iload_n dX8_bestAt_21 rfl rfl ?_
    refine wp_iald 76 rfl rfl ⟨by omega, by omega⟩ ⟨by omega, by omega⟩ dX8_bestAt_22 (v := (dgA E A i)) ((hG.at (i := i) (by omega)).1) ?_
    refine wp_callV0 (d' := d - 1) cv_RX8_393 69 rfl [(0, (dgA E A i))] [] rfl rfl (Or.inl ⟨_, _, rfl, by decide, rfl, by omega, by omega⟩) (by omega) (Nat.le_of_ble_eq_true rfl) dX8_bestAt_23 rfl (Nat.le_of_ble_eq_true rfl) (by omega) (loc1 := [(2, 69), (0, (dgA E A i)), (9, 0), (9, 0), (9, 0), (9, 0), (9, 0)]) rfl ?_
    refine sp_wtm hn hI (by omega) hN3 hN2 hWt (hG.ix (i := i) (by omega)).2.1 (hG.ix (i := i) (by omega)).2.2 (fun M1 I1 f1 => ?_)
    have G1 := hG.f79 f1
    have Wt1 := hWt.fr (fun j => f1 80 j (by unfold V79; omega)) (fun j => f1 81 j (by unfold V79; omega))
    refine wp_istore_n (loc' := [(2, 69), (0, (b : Int)), (0, (i : Int)), (0, (wA E A i)), u4, u5]) dX8_bestAt_26 rfl (Nat.le_of_ble_eq_true rfl) rfl ?_
    refine wp_aload_n dX8_bestAt_27 rfl rfl ?_
    refine wp_aload_n dX8_bestAt_28 rfl rfl ?_
    refine wp_get 69 rfl fl_RX8_32 rfl ⟨by omega, by omega⟩ dX8_bestAt_29 rfl (v := 76) (sr_69_28 (M := M1) I1.1) ?_
    refine wp_iload_n dX8_bestAt_32 rfl rfl ?_
    refine wp_iald 76 rfl rfl ⟨by omega, by omega⟩ ⟨by omega, by omega⟩ dX8_bestAt_33 (v := (dgA E A b)) ((G1.at (i := b) (by omega)).1) ?_
    refine wp_callV0 (d' := d - 1) cv_RX8_393 69 rfl [(0, (dgA E A b))] [] rfl rfl (Or.inl ⟨_, _, rfl, by decide, rfl, by omega, by omega⟩) (by omega) (Nat.le_of_ble_eq_true rfl) dX8_bestAt_34 rfl (Nat.le_of_ble_eq_true rfl) (by omega) (loc1 := [(2, 69), (0, (dgA E A b)), (9, 0), (9, 0), (9, 0), (9, 0), (9, 0)]) rfl ?_
    refine sp_wtm hn I1 (by omega) hN3 hN2 Wt1 (hG.ix (i := b) (by omega)).2.1 (hG.ix (i := b) (by omega)).2.2 (fun M2 I2 f2 => ?_)
    have G2 := G1.f79 f2
    have Wt2 := Wt1.fr (fun j => f2 80 j (by unfold V79; omega)) (fun j => f2 81 j (by unfold V79; omega))
    refine wp_istore (loc' := [(2, 69), (0, (b : Int)), (0, (i : Int)), (0, (wA E A i)), (0, (wA E A b)), u5]) dX8_bestAt_37 (Nat.le_of_ble_eq_true rfl) rfl ?_
    refine wp_iload_n dX8_bestAt_39 rfl rfl ?_
    refine wp_iload dX8_bestAt_40 rfl ?_
    refine wp_icmp_lt (tgt := 96) dX8_bestAt_42 (by decide) (fun h42 => ?_) (fun h42 => ?_)
    · refine wp_iconst dX8_bestAt_96 (by decide) ?_
      refine wp_goto (tgt := 101) dX8_bestAt_97 (by decide) ?_
      refine wp_istore (loc' := [(2, 69), (0, (b : Int)), (0, (i : Int)), (0, (wA E A i)), (0, (wA E A b)), (0, 1)]) dX8_bestAt_101 (Nat.le_of_ble_eq_true rfl) rfl ?_
      refine wp_iload dX8_bestAt_103 rfl ?_
      refine wp_if_eq (tgt := 112) dX8_bestAt_105 (by decide) (fun h => absurd h (by decide)) (fun _ => ?_)
      refine wp_iload_n dX8_bestAt_108 rfl rfl ?_
      refine wp_goto (tgt := 113) dX8_bestAt_109 (by decide) ?_
      refine wp_istore_n (loc' := [(2, 69), (0, (i : Int)), (0, (i : Int)), (0, (wA E A i)), (0, (wA E A b)), (0, 1)]) dX8_bestAt_113 rfl (Nat.le_of_ble_eq_true rfl) rfl ?_
      refine wp_iinc (loc' := [(2, 69), (0, (i : Int)), (0, ((i : Int) + 1)), (0, (wA E A i)), (0, (wA E A b)), (0, 1)]) dX8_bestAt_114 rfl (by omega) rfl ?_
      refine wp_goto (tgt := 8) dX8_bestAt_117 (by decide) ?_
      have e : bstM E A (m + 1) i b = bstM E A m (i + 1) i := by
        show bstM E A m (i + 1) (if _ then i else b) = _
        rw [if_pos (by omega)]
      rw [e] at k
      exact ih (i + 1) i _ _ _ M2 Q (by omega) (by omega) (by omega) G2 Wt2 (fun M3 G3 W3 F3 => k M3 G3 W3 ((f1.tr f2).tr F3))
    · refine wp_iload_n dX8_bestAt_45 rfl rfl ?_
      refine wp_iload dX8_bestAt_46 rfl ?_
      refine wp_icmp_ne (tgt := 100) dX8_bestAt_48 (by decide) (fun h48 => ?_) (fun h48 => ?_)
      · refine wp_iconst dX8_bestAt_100 (by decide) ?_
        refine wp_istore (loc' := [(2, 69), (0, (b : Int)), (0, (i : Int)), (0, (wA E A i)), (0, (wA E A b)), (0, 0)]) dX8_bestAt_101 (Nat.le_of_ble_eq_true rfl) rfl ?_
        refine wp_iload dX8_bestAt_103 rfl ?_
        refine wp_if_eq (tgt := 112) dX8_bestAt_105 (by decide) (fun _ => ?_) (fun h => absurd h (by decide))
        refine wp_iload_n dX8_bestAt_112 rfl rfl ?_
        refine wp_istore_n (loc' := [(2, 69), (0, (b : Int)), (0, (i : Int)), (0, (wA E A i)), (0, (wA E A b)), (0, 0)]) dX8_bestAt_113 rfl (Nat.le_of_ble_eq_true rfl) rfl ?_
        refine wp_iinc (loc' := [(2, 69), (0, (b : Int)), (0, ((i : Int) + 1)), (0, (wA E A i)), (0, (wA E A b)), (0, 0)]) dX8_bestAt_114 rfl (by omega) rfl ?_
        refine wp_goto (tgt := 8) dX8_bestAt_117 (by decide) ?_
        have e : bstM E A (m + 1) i b = bstM E A m (i + 1) b := by
          show bstM E A m (i + 1) (if _ then i else b) = _
          rw [if_neg (by omega)]
        rw [e] at k
        exact ih (i + 1) b _ _ _ M2 Q (by omega) (by omega) (by omega) G2 Wt2 (fun M3 G3 W3 F3 => k M3 G3 W3 ((f1.tr f2).tr F3))
      · refine wp_aload_n dX8_bestAt_51 rfl rfl ?_
        refine wp_get 69 rfl fl_RX8_35 rfl ⟨by omega, by omega⟩ dX8_bestAt_52 rfl (v := 77) (sr_69_29 (M := M2) I2.1) ?_
        refine wp_iload_n dX8_bestAt_55 rfl rfl ?_
        refine wp_iald 77 rfl rfl ⟨by omega, by omega⟩ ⟨by omega, by omega⟩ dX8_bestAt_56 (v := (awA E A i)) ((G2.at (i := i) (by omega)).2) ?_
        refine wp_aload_n dX8_bestAt_57 rfl rfl ?_
        refine wp_get 69 rfl fl_RX8_35 rfl ⟨by omega, by omega⟩ dX8_bestAt_58 rfl (v := 77) (sr_69_29 (M := M2) I2.1) ?_
        refine wp_iload_n dX8_bestAt_61 rfl rfl ?_
        refine wp_iald 77 rfl rfl ⟨by omega, by omega⟩ ⟨by omega, by omega⟩ dX8_bestAt_62 (v := (awA E A b)) ((G2.at (i := b) (by omega)).2) ?_
        refine wp_icmp_lt (tgt := 96) dX8_bestAt_63 (by decide) (fun h63 => ?_) (fun h63 => ?_)
        · refine wp_iconst dX8_bestAt_96 (by decide) ?_
          refine wp_goto (tgt := 101) dX8_bestAt_97 (by decide) ?_
          refine wp_istore (loc' := [(2, 69), (0, (b : Int)), (0, (i : Int)), (0, (wA E A i)), (0, (wA E A b)), (0, 1)]) dX8_bestAt_101 (Nat.le_of_ble_eq_true rfl) rfl ?_
          refine wp_iload dX8_bestAt_103 rfl ?_
          refine wp_if_eq (tgt := 112) dX8_bestAt_105 (by decide) (fun h => absurd h (by decide)) (fun _ => ?_)
          refine wp_iload_n dX8_bestAt_108 rfl rfl ?_
          refine wp_goto (tgt := 113) dX8_bestAt_109 (by decide) ?_
          refine wp_istore_n (loc' := [(2, 69), (0, (i : Int)), (0, (i : Int)), (0, (wA E A i)), (0, (wA E A b)), (0, 1)]) dX8_bestAt_113 rfl (Nat.le_of_ble_eq_true rfl) rfl ?_
          refine wp_iinc (loc' := [(2, 69), (0, (i : Int)), (0, ((i : Int) + 1)), (0, (wA E A i)), (0, (wA E A b)), (0, 1)]) dX8_bestAt_114 rfl (by omega) rfl ?_
          refine wp_goto (tgt := 8) dX8_bestAt_117 (by decide) ?_
          have e : bstM E A (m + 1) i b = bstM E A m (i + 1) i := by
            show bstM E A m (i + 1) (if _ then i else b) = _
            rw [if_pos (by omega)]
          rw [e] at k
          exact ih (i + 1) i _ _ _ M2 Q (by omega) (by omega) (by omega) G2 Wt2 (fun M3 G3 W3 F3 => k M3 G3 W3 ((f1.tr f2).tr F3))
        · refine wp_aload_n dX8_bestAt_66 rfl rfl ?_
          refine wp_get 69 rfl fl_RX8_35 rfl ⟨by omega, by omega⟩ dX8_bestAt_67 rfl (v := 77) (sr_69_29 (M := M2) I2.1) ?_
          refine wp_iload_n dX8_bestAt_70 rfl rfl ?_
          refine wp_iald 77 rfl rfl ⟨by omega, by omega⟩ ⟨by omega, by omega⟩ dX8_bestAt_71 (v := (awA E A i)) ((G2.at (i := i) (by omega)).2) ?_
          refine wp_aload_n dX8_bestAt_72 rfl rfl ?_
          refine wp_get 69 rfl fl_RX8_35 rfl ⟨by omega, by omega⟩ dX8_bestAt_73 rfl (v := 77) (sr_69_29 (M := M2) I2.1) ?_
          refine wp_iload_n dX8_bestAt_76 rfl rfl ?_
          refine wp_iald 77 rfl rfl ⟨by omega, by omega⟩ ⟨by omega, by omega⟩ dX8_bestAt_77 (v := (awA E A b)) ((G2.at (i := b) (by omega)).2) ?_
          refine wp_icmp_ne (tgt := 100) dX8_bestAt_78 (by decide) (fun h78 => ?_) (fun h78 => ?_)
          · refine wp_iconst dX8_bestAt_100 (by decide) ?_
            refine wp_istore (loc' := [(2, 69), (0, (b : Int)), (0, (i : Int)), (0, (wA E A i)), (0, (wA E A b)), (0, 0)]) dX8_bestAt_101 (Nat.le_of_ble_eq_true rfl) rfl ?_
            refine wp_iload dX8_bestAt_103 rfl ?_
            refine wp_if_eq (tgt := 112) dX8_bestAt_105 (by decide) (fun _ => ?_) (fun h => absurd h (by decide))
            refine wp_iload_n dX8_bestAt_112 rfl rfl ?_
            refine wp_istore_n (loc' := [(2, 69), (0, (b : Int)), (0, (i : Int)), (0, (wA E A i)), (0, (wA E A b)), (0, 0)]) dX8_bestAt_113 rfl (Nat.le_of_ble_eq_true rfl) rfl ?_
            refine wp_iinc (loc' := [(2, 69), (0, (b : Int)), (0, ((i : Int) + 1)), (0, (wA E A i)), (0, (wA E A b)), (0, 0)]) dX8_bestAt_114 rfl (by omega) rfl ?_
            refine wp_goto (tgt := 8) dX8_bestAt_117 (by decide) ?_
            have e : bstM E A (m + 1) i b = bstM E A m (i + 1) b := by
              show bstM E A m (i + 1) (if _ then i else b) = _
              rw [if_neg (by omega)]
            rw [e] at k
            exact ih (i + 1) b _ _ _ M2 Q (by omega) (by omega) (by omega) G2 Wt2 (fun M3 G3 W3 F3 => k M3 G3 W3 ((f1.tr f2).tr F3))
          · refine wp_aload_n dX8_bestAt_81 rfl rfl ?_
            refine wp_get 69 rfl fl_RX8_32 rfl ⟨by omega, by omega⟩ dX8_bestAt_82 rfl (v := 76) (sr_69_28 (M := M2) I2.1) ?_
            refine wp_iload_n dX8_bestAt_85 rfl rfl ?_
            refine wp_iald 76 rfl rfl ⟨by omega, by omega⟩ ⟨by omega, by omega⟩ dX8_bestAt_86 (v := (dgA E A i)) ((G2.at (i := i) (by omega)).1) ?_
            refine wp_aload_n dX8_bestAt_87 rfl rfl ?_
            refine wp_get 69 rfl fl_RX8_32 rfl ⟨by omega, by omega⟩ dX8_bestAt_88 rfl (v := 76) (sr_69_28 (M := M2) I2.1) ?_
            refine wp_iload_n dX8_bestAt_91 rfl rfl ?_
            refine wp_iald 76 rfl rfl ⟨by omega, by omega⟩ ⟨by omega, by omega⟩ dX8_bestAt_92 (v := (dgA E A b)) ((G2.at (i := b) (by omega)).1) ?_
            refine wp_icmp_ge (tgt := 100) dX8_bestAt_93 (by decide) (fun h93 => ?_) (fun h93 => ?_)
            · refine wp_iconst dX8_bestAt_100 (by decide) ?_
              refine wp_istore (loc' := [(2, 69), (0, (b : Int)), (0, (i : Int)), (0, (wA E A i)), (0, (wA E A b)), (0, 0)]) dX8_bestAt_101 (Nat.le_of_ble_eq_true rfl) rfl ?_
              refine wp_iload dX8_bestAt_103 rfl ?_
              refine wp_if_eq (tgt := 112) dX8_bestAt_105 (by decide) (fun _ => ?_) (fun h => absurd h (by decide))
              refine wp_iload_n dX8_bestAt_112 rfl rfl ?_
              refine wp_istore_n (loc' := [(2, 69), (0, (b : Int)), (0, (i : Int)), (0, (wA E A i)), (0, (wA E A b)), (0, 0)]) dX8_bestAt_113 rfl (Nat.le_of_ble_eq_true rfl) rfl ?_
              refine wp_iinc (loc' := [(2, 69), (0, (b : Int)), (0, ((i : Int) + 1)), (0, (wA E A i)), (0, (wA E A b)), (0, 0)]) dX8_bestAt_114 rfl (by omega) rfl ?_
              refine wp_goto (tgt := 8) dX8_bestAt_117 (by decide) ?_
              have e : bstM E A (m + 1) i b = bstM E A m (i + 1) b := by
                show bstM E A m (i + 1) (if _ then i else b) = _
                rw [if_neg (by omega)]
              rw [e] at k
              exact ih (i + 1) b _ _ _ M2 Q (by omega) (by omega) (by omega) G2 Wt2 (fun M3 G3 W3 F3 => k M3 G3 W3 ((f1.tr f2).tr F3))
            · refine wp_iconst dX8_bestAt_96 (by decide) ?_
              refine wp_goto (tgt := 101) dX8_bestAt_97 (by decide) ?_
              refine wp_istore (loc' := [(2, 69), (0, (b : Int)), (0, (i : Int)), (0, (wA E A i)), (0, (wA E A b)), (0, 1)]) dX8_bestAt_101 (Nat.le_of_ble_eq_true rfl) rfl ?_
              refine wp_iload dX8_bestAt_103 rfl ?_
              refine wp_if_eq (tgt := 112) dX8_bestAt_105 (by decide) (fun h => absurd h (by decide)) (fun _ => ?_)
              refine wp_iload_n dX8_bestAt_108 rfl rfl ?_
              refine wp_goto (tgt := 113) dX8_bestAt_109 (by decide) ?_
              refine wp_istore_n (loc' := [(2, 69), (0, (i : Int)), (0, (i : Int)), (0, (wA E A i)), (0, (wA E A b)), (0, 1)]) dX8_bestAt_113 rfl (Nat.le_of_ble_eq_true rfl) rfl ?_
              refine wp_iinc (loc' := [(2, 69), (0, (i : Int)), (0, ((i : Int) + 1)), (0, (wA E A i)), (0, (wA E A b)), (0, 1)]) dX8_bestAt_114 rfl (by omega) rfl ?_
              refine wp_goto (tgt := 8) dX8_bestAt_117 (by decide) ?_
              have e : bstM E A (m + 1) i b = bstM E A m (i + 1) i := by
                show bstM E A m (i + 1) (if _ then i else b) = _
                rw [if_pos (by omega)]
              rw [e] at k
              exact ih (i + 1) i _ _ _ M2 Q (by omega) (by omega) (by omega) G2 Wt2 (fun M3 G3 W3 F3 => k M3 G3 W3 ((f1.tr f2).tr F3))
set_option maxRecDepth 20000 in
set_option maxHeartbeats 4000000 in
theorem sp_bam {l : Launch} {g : Gw} {d n : Nat} {M : Mm} {Q : Option Wd → Mm → Prop} (hn : 90 ≤ n) {A : Ls} {E : Ev} (hG : GJ M A E) (hd : 76 ≤ d) {N2 : Nat} (hN2 : A.1 2 = (N2 : Int)) (k : ∀ M', GJ M' A E → WtM M' E A N2 → Fr VMo M M' → Q (some (0, (bstM E A ((flA E A).length - 1) 1 0 : Int))) M') : Wp l g d 0 0 n m_X8_bestAt 0 [] [(2, 69), (9, 0), (9, 0), (9, 0), (9, 0), (9, 0)] M Q := by
  obtain ⟨hI, hS⟩ := id hG
  obtain ⟨hR, hA, hW, hr, hX⟩ := id hI
  have w2 := hW.1
  have w5 := hW.2.1
  have w3 := hW.2.2.1
  have w32 := hW.2.2.2.1
  have hok := lnA_ok hW
  have hll := lnA_len A
  have hN3 : A.1 3 = ((lnA A).length : Int) := by omega
  have h120 : (flA E A).length ≤ 120 := hS.2.2.1.le hok.2.1
  have h30 : M 69 30 = ((flA E A).length : Int) := hS.1.1
  have hfp := fl_pos E A
  refine wp_aload_n dX8_bestAt_0 rfl rfl ?_
  refine wp_callV0 (d' := d - 1) cv_RX8_390 69 rfl [] [] rfl rfl (Or.inl ⟨_, _, rfl, by decide, rfl, by omega, by omega⟩) (by omega) (Nat.le_of_ble_eq_true rfl) dX8_bestAt_1 rfl (Nat.le_of_ble_eq_true rfl) (by omega) (loc1 := [(2, 69), (9, 0)]) rfl ?_
  refine sp_wgm hn hI (by omega) hN2 (fun M1 I1 W1 F1 => ?_)
  have G1 := hG.fx F1
  refine wp_iconst dX8_bestAt_4 (by decide) ?_
  refine wp_istore_n (loc' := [(2, 69), (0, 0), (9, 0), (9, 0), (9, 0), (9, 0)]) dX8_bestAt_5 rfl (Nat.le_of_ble_eq_true rfl) rfl ?_
  refine wp_iconst dX8_bestAt_6 (by decide) ?_
  refine wp_istore_n (loc' := [(2, 69), (0, 0), (0, 1), (9, 0), (9, 0), (9, 0)]) dX8_bestAt_7 rfl (Nat.le_of_ble_eq_true rfl) rfl ?_
  exact lp_bam hn (by omega) hN2 ((flA E A).length - 1) 1 0 _ _ _ M1 Q (by omega) (by omega) (by omega) G1 W1 (fun M2 G2 W2 F2 => k M2 G2 W2 ((F1.mono VMx.o).tr (F2.mono V79.o)))
set_option maxRecDepth 20000 in
set_option maxHeartbeats 4000000 in
theorem lp_lsm {l : Launch} {g : Gw} {d n : Nat} {M : Mm} {Q : Option Wd → Mm → Prop} (hn : 90 ≤ n) {A : Ls} {E : Ev} (hI : MJ M A E) {N : Nat} (hN3 : A.1 3 = (N : Int)) (k : Q (some (0, wlA A N)) M) : ∀ (m q : Nat), q + m = N → Wp l g d 0 0 n m_X8_lineSet 4 [] [(2, 69), (0, (wlA A q)), (0, (q : Int))] M Q := by
  obtain ⟨hR, hA, hW, hr, hX⟩ := id hI
  have w2 := hW.1
  have w5 := hW.2.1
  have w3 := hW.2.2.1
  have w32 := hW.2.2.2.1
  intro m
  induction m with
  | zero =>
    intro q hq
    refine wp_iload_n dX8_lineSet_4 rfl rfl ?_
    refine wp_aload_n dX8_lineSet_5 rfl rfl ?_
    refine wp_get 69 rfl fl_RX8_123 rfl ⟨by omega, by omega⟩ dX8_lineSet_6 rfl (v := (A.1 3)) (hA.2.2.2.1) ?_
    refine wp_icmp_ge (tgt := 29) dX8_lineSet_9 (by decide) (fun _ => ?_) (fun h => absurd h (by omega))
    refine wp_iload_n dX8_lineSet_29 rfl rfl ?_
    refine wp_iret rfl dX8_lineSet_30 ?_
    have e : q = N := by omega
    subst e
    exact k
  | succ m ih =>
    intro q hq
    refine wp_iload_n dX8_lineSet_4 rfl rfl ?_
    refine wp_aload_n dX8_lineSet_5 rfl rfl ?_
    refine wp_get 69 rfl fl_RX8_123 rfl ⟨by omega, by omega⟩ dX8_lineSet_6 rfl (v := (A.1 3)) (hA.2.2.2.1) ?_
    refine wp_icmp_ge (tgt := 29) dX8_lineSet_9 (by decide) (fun h => absurd h (by omega)) (fun _ => ?_)
    refine wp_iload_n dX8_lineSet_12 rfl rfl ?_
    refine wp_iconst dX8_lineSet_13 (by decide) ?_
    refine wp_aload_n dX8_lineSet_14 rfl rfl ?_
    refine wp_get 69 rfl fl_RX8_29 rfl ⟨by omega, by omega⟩ dX8_lineSet_15 rfl (v := 75) (sr_69_11 (M := M) hR) ?_
    refine wp_iload_n dX8_lineSet_18 rfl rfl ?_
    refine wp_iald 75 rfl rfl ⟨by omega, by omega⟩ ⟨by omega, by omega⟩ dX8_lineSet_19 (v := (A.2 5 q)) (hA.2.2.2.2.2.2 q (by omega)) ?_
    refine wp_ishl dX8_lineSet_20 ?_
    refine wp_ior dX8_lineSet_21 ?_
    refine wp_istore_n (loc' := [(2, 69), (0, (bor (wlA A q) (shl 1 (A.2 5 q)))), (0, (q : Int))]) dX8_lineSet_22 rfl (Nat.le_of_ble_eq_true rfl) rfl ?_
    refine wp_iinc (loc' := [(2, 69), (0, (bor (wlA A q) (shl 1 (A.2 5 q)))), (0, ((q : Int) + 1))]) dX8_lineSet_23 rfl (by omega) rfl ?_
    refine wp_goto (tgt := 4) dX8_lineSet_26 (by decide) ?_
    exact ih (q + 1) (by omega)
set_option maxRecDepth 20000 in
set_option maxHeartbeats 4000000 in
theorem sp_lnset {l : Launch} {g : Gw} {d n : Nat} {M : Mm} {Q : Option Wd → Mm → Prop} (hn : 90 ≤ n) {A : Ls} {E : Ev} (hI : MJ M A E) {N : Nat} (hN3 : A.1 3 = (N : Int)) (k : Q (some (0, wlA A N)) M) : Wp l g d 0 0 n m_X8_lineSet 0 [] [(2, 69), (9, 0), (9, 0)] M Q := by
  obtain ⟨hR, hA, hW, hr, hX⟩ := id hI
  have w2 := hW.1
  have w5 := hW.2.1
  have w3 := hW.2.2.1
  have w32 := hW.2.2.2.1
  refine wp_iconst dX8_lineSet_0 (by decide) ?_
  refine wp_istore_n (loc' := [(2, 69), (0, 0), (9, 0)]) dX8_lineSet_1 rfl (Nat.le_of_ble_eq_true rfl) rfl ?_
  refine wp_iconst dX8_lineSet_2 (by decide) ?_
  refine wp_istore_n (loc' := [(2, 69), (0, 0), (0, 0)]) dX8_lineSet_3 rfl (Nat.le_of_ble_eq_true rfl) rfl ?_
  exact lp_lsm hn hI hN3 k N 0 (by omega)
set_option maxRecDepth 20000 in
set_option maxHeartbeats 4000000 in
theorem lp_rgi  {l : Launch} {g : Gw} {d n : Nat} (hn : 90 ≤ n) (hd : 70 ≤ d) {E : Ev} {A : Ls} {N p : Nat} (hN3 : A.1 3 = (N : Int)) (hN5 : N ≤ 5) : ∀ (m q : Nat) (c : Int) (M : Mm) (Q : Option Wd → Mm → Prop), q + m = N → p < q → (0 ≤ c ∧ c ≤ 100 + (q : Int)) → MJ M A E → (∀ M' u, MJ M' A E → Fr VMs M M' → Wp l g d 0 0 n m_X8_ringMany 76 [] [(2, 69), (0, rgI E A p m q c), (0, (p : Int)), u] M' Q) → Wp l g d 0 0 n m_X8_ringMany 16 [] [(2, 69), (0, c), (0, (p : Int)), (0, (q : Int))] M Q := by
  intro m
  induction m with
  | zero =>
    intro q c M Q hm hpq hc hI k
    obtain ⟨hR, hA, hW, hr, hX⟩ := id hI
    have w2 := hW.1
    have w5 := hW.2.1
    have w3 := hW.2.2.1
    have w32 := hW.2.2.2.1
    refine wp_iload_n dX8_ringMany_16 rfl rfl ?_
    refine wp_aload_n dX8_ringMany_17 rfl rfl ?_
    refine wp_get 69 rfl fl_RX8_123 rfl ⟨by omega, by omega⟩ dX8_ringMany_18 rfl (v := (A.1 3)) (hA.2.2.2.1) ?_
    refine wp_icmp_ge (tgt := 76) dX8_ringMany_21 (by decide) (fun _ => ?_) (fun h => absurd h (by omega))
    exact k M _ hI Fr.rf
  | succ m ih =>
    intro q c M Q hm hpq hc hI k
    obtain ⟨hR, hA, hW, hr, hX⟩ := id hI
    have w2 := hW.1
    have w5 := hW.2.1
    have w3 := hW.2.2.1
    have w32 := hW.2.2.2.1
    have vp := hW.2.2.2.2.1 p (by omega)
    have vq := hW.2.2.2.2.1 q (by omega)
    have vn := hW.2.2.2.2.2.1 p q (by omega) (by omega)
    refine wp_iload_n dX8_ringMany_16 rfl rfl ?_
    refine wp_aload_n dX8_ringMany_17 rfl rfl ?_
    refine wp_get 69 rfl fl_RX8_123 rfl ⟨by omega, by omega⟩ dX8_ringMany_18 rfl (v := (A.1 3)) (hA.2.2.2.1) ?_
    refine wp_icmp_ge (tgt := 76) dX8_ringMany_21 (by decide) (fun h => absurd h (by omega)) (fun _ => ?_)
    refine wp_iload_n dX8_ringMany_24 rfl rfl ?_
    refine wp_aload_n dX8_ringMany_25 rfl rfl ?_
    refine wp_aload_n dX8_ringMany_26 rfl rfl ?_
    refine wp_get 69 rfl fl_RX8_29 rfl ⟨by omega, by omega⟩ dX8_ringMany_27 rfl (v := 75) (sr_69_11 (M := M) hR) ?_
    refine wp_iload_n dX8_ringMany_30 rfl rfl ?_
    refine wp_iald 75 rfl rfl ⟨by omega, by omega⟩ ⟨by omega, by omega⟩ dX8_ringMany_31 (v := (A.2 5 p)) (hA.2.2.2.2.2.2 p (by omega)) ?_
    refine wp_aload_n dX8_ringMany_32 rfl rfl ?_
    refine wp_get 69 rfl fl_RX8_29 rfl ⟨by omega, by omega⟩ dX8_ringMany_33 rfl (v := 75) (sr_69_11 (M := M) hR) ?_
    refine wp_iload_n dX8_ringMany_36 rfl rfl ?_
    refine wp_iald 75 rfl rfl ⟨by omega, by omega⟩ ⟨by omega, by omega⟩ dX8_ringMany_37 (v := (A.2 5 q)) (hA.2.2.2.2.2.2 q (by omega)) ?_
    refine wp_callV0 (d' := d - 1) cv_RX8_128 69 rfl [(0, (A.2 5 p)), (0, (A.2 5 q))] [(0, c)] rfl rfl (Or.inl ⟨_, _, rfl, by decide, rfl, by omega, by omega⟩) (by omega) (Nat.le_of_ble_eq_true rfl) dX8_ringMany_38 rfl (Nat.le_of_ble_eq_true rfl) (by omega) (loc1 := [(2, 69), (0, (A.2 5 p)), (0, (A.2 5 q)), (9, 0), (9, 0), (9, 0)]) rfl ?_
    refine sp_mdm hn hI (by omega) (A.2 5 p) (A.2 5 q) vp vq vn (fun m1 M1 F1 => ?_) (fun m1 M1 F1 => ?_)
    · have I1 := hI.frs F1
      refine wp_if_ne (tgt := 63) dX8_ringMany_41 (by decide) (fun _ => ?_) (fun h => absurd h (by decide))
      refine wp_iconst dX8_ringMany_63 (by decide) ?_
      refine wp_goto (tgt := 68) dX8_ringMany_64 (by decide) ?_
      refine wp_iadd dX8_ringMany_68 (by omega) ?_
      refine wp_istore_n (loc' := [(2, 69), (0, (c + 0)), (0, (p : Int)), (0, (q : Int))]) dX8_ringMany_69 rfl (Nat.le_of_ble_eq_true rfl) rfl ?_
      refine wp_iinc (loc' := [(2, 69), (0, (c + 0)), (0, (p : Int)), (0, ((q : Int) + 1))]) dX8_ringMany_70 rfl (by omega) rfl ?_
      refine wp_goto (tgt := 16) dX8_ringMany_73 (by decide) ?_
      have e : rgI E A p (m + 1) q c = rgI E A p m (q + 1) c := by
        show rgI E A p m (q + 1) (if _ then c + 1 else c) = _
        rw [if_neg (fun h => by have h1 := h.1; rw [m1] at h1; cases h1)]
      rw [e] at k
      rw [show c + 0 = c from Int.add_zero c]
      exact ih (q + 1) _ M1 Q (by omega) (by omega) (by omega) I1 (fun M9 u9 I9 F9 => k M9 u9 I9 (F1.tr F9))
    · have I1 := hI.frs F1
      refine wp_if_ne (tgt := 63) dX8_ringMany_41 (by decide) (fun h => absurd h (by decide)) (fun _ => ?_)
      refine wp_aload_n dX8_ringMany_44 rfl rfl ?_
      refine wp_aload_n dX8_ringMany_45 rfl rfl ?_
      refine wp_get 69 rfl fl_RX8_29 rfl ⟨by omega, by omega⟩ dX8_ringMany_46 rfl (v := 75) (sr_69_11 (M := M1) I1.1) ?_
      refine wp_iload_n dX8_ringMany_49 rfl rfl ?_
      refine wp_iald 75 rfl rfl ⟨by omega, by omega⟩ ⟨by omega, by omega⟩ dX8_ringMany_50 (v := (A.2 5 q)) (I1.2.1.2.2.2.2.2.2 q (by omega)) ?_
      refine wp_aload_n dX8_ringMany_51 rfl rfl ?_
      refine wp_get 69 rfl fl_RX8_29 rfl ⟨by omega, by omega⟩ dX8_ringMany_52 rfl (v := 75) (sr_69_11 (M := M1) I1.1) ?_
      refine wp_iload_n dX8_ringMany_55 rfl rfl ?_
      refine wp_iald 75 rfl rfl ⟨by omega, by omega⟩ ⟨by omega, by omega⟩ dX8_ringMany_56 (v := (A.2 5 p)) (I1.2.1.2.2.2.2.2.2 p (by omega)) ?_
      refine wp_callV0 (d' := d - 1) cv_RX8_128 69 rfl [(0, (A.2 5 q)), (0, (A.2 5 p))] [(0, c)] rfl rfl (Or.inl ⟨_, _, rfl, by decide, rfl, by omega, by omega⟩) (by omega) (Nat.le_of_ble_eq_true rfl) dX8_ringMany_57 rfl (Nat.le_of_ble_eq_true rfl) (by omega) (loc1 := [(2, 69), (0, (A.2 5 q)), (0, (A.2 5 p)), (9, 0), (9, 0), (9, 0)]) rfl ?_
      refine sp_mdm hn I1 (by omega) (A.2 5 q) (A.2 5 p) vq vp (fun h => vn h.symm) (fun m2 M2 F2 => ?_) (fun m2 M2 F2 => ?_)
      · have I2 := I1.frs F2
        refine wp_if_eq (tgt := 67) dX8_ringMany_60 (by decide) (fun h => absurd h (by decide)) (fun _ => ?_)
        refine wp_iconst dX8_ringMany_63 (by decide) ?_
        refine wp_goto (tgt := 68) dX8_ringMany_64 (by decide) ?_
        refine wp_iadd dX8_ringMany_68 (by omega) ?_
        refine wp_istore_n (loc' := [(2, 69), (0, (c + 0)), (0, (p : Int)), (0, (q : Int))]) dX8_ringMany_69 rfl (Nat.le_of_ble_eq_true rfl) rfl ?_
        refine wp_iinc (loc' := [(2, 69), (0, (c + 0)), (0, (p : Int)), (0, ((q : Int) + 1))]) dX8_ringMany_70 rfl (by omega) rfl ?_
        refine wp_goto (tgt := 16) dX8_ringMany_73 (by decide) ?_
        have e : rgI E A p (m + 1) q c = rgI E A p m (q + 1) c := by
          show rgI E A p m (q + 1) (if _ then c + 1 else c) = _
          rw [if_neg (fun h => by have h1 := h.2; rw [m2] at h1; cases h1)]
        rw [e] at k
        rw [show c + 0 = c from Int.add_zero c]
        exact ih (q + 1) _ M2 Q (by omega) (by omega) (by omega) I2 (fun M9 u9 I9 F9 => k M9 u9 I9 ((F1.tr F2).tr F9))
      · have I2 := I1.frs F2
        refine wp_if_eq (tgt := 67) dX8_ringMany_60 (by decide) (fun _ => ?_) (fun h => absurd h (by decide))
        refine wp_iconst dX8_ringMany_67 (by decide) ?_
        refine wp_iadd dX8_ringMany_68 (by omega) ?_
        refine wp_istore_n (loc' := [(2, 69), (0, (c + 1)), (0, (p : Int)), (0, (q : Int))]) dX8_ringMany_69 rfl (Nat.le_of_ble_eq_true rfl) rfl ?_
        refine wp_iinc (loc' := [(2, 69), (0, (c + 1)), (0, (p : Int)), (0, ((q : Int) + 1))]) dX8_ringMany_70 rfl (by omega) rfl ?_
        refine wp_goto (tgt := 16) dX8_ringMany_73 (by decide) ?_
        have e : rgI E A p (m + 1) q c = rgI E A p m (q + 1) (c + 1) := by
          show rgI E A p m (q + 1) (if _ then c + 1 else c) = _
          rw [if_pos ⟨m1, m2⟩]
        rw [e] at k
        exact ih (q + 1) _ M2 Q (by omega) (by omega) (by omega) I2 (fun M9 u9 I9 F9 => k M9 u9 I9 ((F1.tr F2).tr F9))
set_option maxRecDepth 20000 in
set_option maxHeartbeats 4000000 in
theorem lp_rgo  {l : Launch} {g : Gw} {d n : Nat} (hn : 90 ≤ n) (hd : 70 ≤ d) {E : Ev} {A : Ls} {N : Nat} (hN3 : A.1 3 = (N : Int)) (hN5 : N ≤ 5) : ∀ (m p : Nat) (c : Int) (u3 : Wd) (M : Mm) (Q : Option Wd → Mm → Prop), p + m = N → (0 ≤ c ∧ c ≤ 10 * (p : Int)) → MJ M A E → (∀ M', MJ M' A E → Fr VMs M M' → Q (some (0, rgO E A N m p c)) M') → Wp l g d 0 0 n m_X8_ringMany 4 [] [(2, 69), (0, c), (0, (p : Int)), u3] M Q := by
  intro m
  induction m with
  | zero =>
    intro p c u3 M Q hm hc hI k
    obtain ⟨hR, hA, hW, hr, hX⟩ := id hI
    have w2 := hW.1
    have w5 := hW.2.1
    have w3 := hW.2.2.1
    have w32 := hW.2.2.2.1
    refine wp_iload_n dX8_ringMany_4 rfl rfl ?_
    refine wp_aload_n dX8_ringMany_5 rfl rfl ?_
    refine wp_get 69 rfl fl_RX8_123 rfl ⟨by omega, by omega⟩ dX8_ringMany_6 rfl (v := (A.1 3)) (hA.2.2.2.1) ?_
    refine wp_icmp_ge (tgt := 82) dX8_ringMany_9 (by decide) (fun _ => ?_) (fun h => absurd h (by omega))
    refine wp_iload_n dX8_ringMany_82 rfl rfl ?_
    refine wp_iret rfl dX8_ringMany_83 ?_
    exact k M hI Fr.rf
  | succ m ih =>
    intro p c u3 M Q hm hc hI k
    obtain ⟨hR, hA, hW, hr, hX⟩ := id hI
    have w2 := hW.1
    have w5 := hW.2.1
    have w3 := hW.2.2.1
    have w32 := hW.2.2.2.1
    refine wp_iload_n dX8_ringMany_4 rfl rfl ?_
    refine wp_aload_n dX8_ringMany_5 rfl rfl ?_
    refine wp_get 69 rfl fl_RX8_123 rfl ⟨by omega, by omega⟩ dX8_ringMany_6 rfl (v := (A.1 3)) (hA.2.2.2.1) ?_
    refine wp_icmp_ge (tgt := 82) dX8_ringMany_9 (by decide) (fun h => absurd h (by omega)) (fun _ => ?_)
    refine wp_iload_n dX8_ringMany_12 rfl rfl ?_
    refine wp_iconst dX8_ringMany_13 (by decide) ?_
    refine wp_iadd dX8_ringMany_14 (by omega) ?_
    refine wp_istore_n (loc' := [(2, 69), (0, c), (0, (p : Int)), (0, ((p : Int) + 1))]) dX8_ringMany_15 rfl (Nat.le_of_ble_eq_true rfl) rfl ?_
    have hr1 := rgI_r E A p (N - (p + 1)) (p + 1) c
    refine lp_rgi hn hd hN3 hN5 (N - (p + 1)) (p + 1) c M Q (by omega) (by omega) (by omega) hI (fun M1 u I1 F1 => ?_)
    refine wp_iinc (loc' := [(2, 69), (0, (rgI E A p (N - (p + 1)) (p + 1) c)), (0, ((p : Int) + 1)), u]) dX8_ringMany_76 rfl (by omega) rfl ?_
    refine wp_goto (tgt := 4) dX8_ringMany_79 (by decide) ?_
    exact ih (p + 1) _ _ M1 Q (by omega) (by omega) I1 (fun M2 I2 F2 => k M2 I2 (F1.tr F2))
set_option maxRecDepth 20000 in
set_option maxHeartbeats 4000000 in
theorem sp_rgm {l : Launch} {g : Gw} {d n : Nat} {M : Mm} {Q : Option Wd → Mm → Prop} (hn : 90 ≤ n) {A : Ls} {E : Ev} (hI : MJ M A E) (hd : 72 ≤ d) {N : Nat} (hN3 : A.1 3 = (N : Int)) (k : ∀ M', MJ M' A E → Fr VMs M M' → Q (some (0, rgO E A N N 0 0)) M') : Wp l g d 0 0 n m_X8_ringMany 0 [] [(2, 69), (9, 0), (9, 0), (9, 0)] M Q := by
  obtain ⟨hR, hA, hW, hr, hX⟩ := id hI
  have w2 := hW.1
  have w5 := hW.2.1
  have w3 := hW.2.2.1
  have w32 := hW.2.2.2.1
  refine wp_iconst dX8_ringMany_0 (by decide) ?_
  refine wp_istore_n (loc' := [(2, 69), (0, 0), (9, 0), (9, 0)]) dX8_ringMany_1 rfl (Nat.le_of_ble_eq_true rfl) rfl ?_
  refine wp_iconst dX8_ringMany_2 (by decide) ?_
  refine wp_istore_n (loc' := [(2, 69), (0, 0), (0, 0), (9, 0)]) dX8_ringMany_3 rfl (Nat.le_of_ble_eq_true rfl) rfl ?_
  exact lp_rgo hn (by omega) hN3 (by omega) N 0 0 _ M Q (by omega) (by omega) hI k
