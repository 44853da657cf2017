/-! ===== the class's readText, text ===== -/
theorem TXC.sz {M : Mm} {T : Nat} {q : (List Int × Vl) × (List Int × Vl) × (List Int × Vl)} (h : TXC M T q) (hT : isT T) (v : Int) (i : Nat) (hi : i = 23 ∨ i = 25) : TXC (mu M i 1 v) T q := by
  have hb := hT.b
  have e : ∀ a j, 27 ≤ a → mu M i 1 v a j = M a j := fun a j ha => mu_ne _ _ _ (by omega) _
  exact ⟨⟨(e _ _ (by omega)).trans h.1.1, fun k hk => (e _ _ (by omega)).trans (h.1.2 k hk)⟩, (e _ _ (by omega)).trans h.2.1, (e _ _ (by omega)).trans h.2.2.1, (e _ _ (by omega)).trans h.2.2.2⟩
set_option maxRecDepth 20000 in
set_option maxHeartbeats 4000000 in
theorem sp_readText {l : Launch} {g : Gw} {d n : Nat} {M : Mm} {Q : Option Wd → Mm → Prop} {T : Nat} (hT : isT T) (hn : 60 ≤ n) {f : Nat → Int} {z : Int} (hd : 62 ≤ d) (hB : BT f z) (hP : TP M f z) (kf : ∀ (p : Nat) M', txtP f z = .inl p → Fr (VE T) M M' → M' 23 1 = 0 → Q (some (0, (p : Int))) M') (kt : ∀ q M', txtP f z = .inr q → Fr (VE T) M M' → M' 23 1 = 0 → TXC M' T q → Q (some (0, -1)) M') : Wp l g d 0 0 n m_X2_readText 0 [] [(2, 23), (2, (T : Int)), (9, 0)] M Q := by
  obtain ⟨hR, hf, hz, hz0, hz1⟩ := id hP
  have hb := hT.b
  refine wp_aload_n dX2_readText_0 rfl rfl ?_
  refine wp_aload_n dX2_readText_1 rfl rfl ?_
  refine wp_puta 23 rfl fl_RX2_33 rfl ⟨by omega, by omega⟩ dX2_readText_2 rfl (Or.inl ⟨_, rfl⟩) rfl (by omega) ?_
  refine wp_aload_n dX2_readText_5 rfl rfl ?_
  refine wp_get 23 rfl fl_RX2_33 rfl ⟨by omega, by omega⟩ dX2_readText_6 rfl (v := (T : Int)) (rfl) ?_
  refine wp_callV0 (d' := d - 1) cv_RX2_37 T rfl [] [] rfl rfl (Or.inl ⟨_, _, hT.k0, by decide, rfl, by omega, by omega⟩) (by omega) (Nat.le_of_ble_eq_true rfl) dX2_readText_9 rfl (Nat.le_of_ble_eq_true rfl) (by omega) (loc1 := [(2, (T : Int))]) rfl ?_
  refine wp_aload_n dX5_clear_0 rfl rfl ?_
  refine wp_iconst dX5_clear_1 (by decide) ?_
  refine wp_puti T rfl fl_RX5_21 hT.k0 ⟨by omega, by omega⟩ dX5_clear_2 rfl rfl ?_
  refine wp_vret rfl dX5_clear_5 ?_
  refine wp_aload_n dX2_readText_12 rfl rfl ?_
  refine wp_iconst dX2_readText_13 (by decide) ?_
  refine wp_puti 23 rfl fl_RX2_42 rfl ⟨by omega, by omega⟩ dX2_readText_14 rfl rfl ?_
  refine wp_aload_n dX2_readText_17 rfl rfl ?_
  refine wp_iconst dX2_readText_18 (by decide) ?_
  refine wp_puti 23 rfl fl_RX2_45 rfl ⟨by omega, by omega⟩ dX2_readText_19 rfl rfl ?_
  refine wp_aload_n dX2_readText_22 rfl rfl ?_
  refine wp_iconst dX2_readText_23 (by decide) ?_
  refine wp_puti 23 rfl fl_RX2_48 rfl ⟨by omega, by omega⟩ dX2_readText_24 rfl rfl ?_
  refine wp_aload_n dX2_readText_27 rfl rfl ?_
  refine wp_callV0 (d' := d - 1) cv_RX2_51 23 rfl [] [] rfl rfl (Or.inl ⟨_, _, rfl, by decide, rfl, by omega, by omega⟩) (by omega) (Nat.le_of_ble_eq_true rfl) dX2_readText_28 rfl (Nat.le_of_ble_eq_true rfl) (by omega) (loc1 := [(2, 23), (9, 0)]) rfl ?_
  have F0 : Fr (VE T) M (mu (mu (mu (mu (mu M 23 2 (T : Int)) T 2 0) 23 4 0) 23 7 0) 23 8 (-1)) := ((((Fr.rf.put (Or.inl ⟨rfl, by omega⟩)).put (Or.inr (Or.inl ⟨rfl, rfl⟩))).put (Or.inl ⟨rfl, by omega⟩)).put (Or.inl ⟨rfl, by omega⟩)).put (Or.inl ⟨rfl, by omega⟩)
  have n1 : ¬ 23 = T := by omega
  have n2 : ¬ T = 23 := by omega
  have a1 : (mu (mu (mu (mu (mu M 23 2 (T : Int)) T 2 0) 23 4 0) 23 7 0) 23 8 (-1)) 23 1 = M 23 1 := by simp [mu, n1, n2]
  have a2 : (mu (mu (mu (mu (mu M 23 2 (T : Int)) T 2 0) 23 4 0) 23 7 0) 23 8 (-1)) 23 2 = (T : Int) := by simp [mu, n1, n2]
  have a4 : (mu (mu (mu (mu (mu M 23 2 (T : Int)) T 2 0) 23 4 0) 23 7 0) 23 8 (-1)) 23 4 = ((0 : Nat) : Int) := by simp [mu, n1, n2]
  have a7 : (mu (mu (mu (mu (mu M 23 2 (T : Int)) T 2 0) 23 4 0) 23 7 0) 23 8 (-1)) 23 7 = 0 := by simp [mu, n1, n2]
  have a8 : (mu (mu (mu (mu (mu M 23 2 (T : Int)) T 2 0) 23 4 0) 23 7 0) 23 8 (-1)) 23 8 = -1 := by simp [mu, n1, n2]
  have aT : (mu (mu (mu (mu (mu M 23 2 (T : Int)) T 2 0) 23 4 0) 23 7 0) 23 8 (-1)) T 2 = 0 := by simp [mu, n1, n2]
  have a24 : (mu (mu (mu (mu (mu M 23 2 (T : Int)) T 2 0) 23 4 0) 23 7 0) 23 8 (-1)) 24 = f := (funext fun j => F0 24 j (by unfold VE; omega)).trans hf
  generalize (mu (mu (mu (mu (mu M 23 2 (T : Int)) T 2 0) 23 4 0) 23 7 0) 23 8 (-1)) = N0 at F0 a1 a2 a4 a7 a8 aT a24 ⊢
  have hP0 : TP N0 f z := ⟨VE.sr hT F0 hR, a24, a1.trans hz, hz0, hz1⟩
  refine sp_step hn hP0 (by omega) hB a4 (by omega) (fun M1 f1 l1 => ?_)
  have J1 : RJ M1 f z T 0 [] 0 := ⟨hP0.fr (f1.mono VR36.r), (f1 23 2 (by unfold VR36; omega)).trans a2, l1, (f1 23 7 (by unfold VR36; omega)).trans a7, (f1 23 8 (by unfold VR36; omega)).trans a8, ((f1 T 2 (by unfold VR36; omega)).trans aT), fun i hi => absurd hi (by simp)⟩
  have H1 : Fr (VE T) M M1 := F0.tr ((f1.mono VR36.j).mono VJ.e)
  have Z1 : ((0 : Nat) : Int) ≤ z := by omega
  have C1 : ([] : List Int).length ≤ 0 := Nat.le_refl 0
  refine wp_iconst dX2_readText_31 (by decide) ?_
  refine wp_istore_n (loc' := [(2, 23), (2, (T : Int)), (0, 0)]) dX2_readText_32 rfl (Nat.le_of_ble_eq_true rfl) rfl ?_
  refine wp_iload_n dX2_readText_33 rfl rfl ?_
  refine wp_iconst dX2_readText_34 (by decide) ?_
  refine wp_icmp_ge (tgt := 71) dX2_readText_35 (by decide) (fun h => absurd h (by decide)) (fun _ => ?_)
  refine wp_aload_n dX2_readText_38 rfl rfl ?_
  refine wp_sipush dX2_readText_39 (by decide) (by decide) ?_
  refine wp_iload_n dX2_readText_42 rfl rfl ?_
  refine wp_iadd dX2_readText_43 (by omega) ?_
  refine wp_callV0 (d' := d - 1) cv_RX2_54 23 rfl [(0, 256)] [] rfl rfl (Or.inl ⟨_, _, rfl, by decide, rfl, by omega, by omega⟩) (by omega) (Nat.le_of_ble_eq_true rfl) dX2_readText_44 rfl (Nat.le_of_ble_eq_true rfl) (by omega) (loc1 := [(2, 23), (0, 256)]) rfl ?_
  refine sp_want hT hn (by omega) hB J1 Z1 256 (fun t2 M2 J2 f2 => ?_) (fun t2 M2 D2 f2 => ?_)
  · have F2 := ((Fr.rf : Fr (VJ T) M1 M1)).tr f2
    have X2 := lxN_le (f := f) Z1
    have Y2 := lxA_le (f := f) Z1
    have C2 : (([] : List Int)).length + 1 ≤ (lxN f z 0) := by have := C1; have := X2.2.2 (by omega); omega
    refine wp_aload_n dX2_readText_47 rfl rfl ?_
    refine wp_callV0 (d' := d - 1) cv_RX2_58 23 rfl [] [] rfl rfl (Or.inl ⟨_, _, rfl, by decide, rfl, by omega, by omega⟩) (by omega) (Nat.le_of_ble_eq_true rfl) dX2_readText_48 rfl (Nat.le_of_ble_eq_true rfl) (by omega) (loc1 := [(2, 23), (9, 0)]) rfl ?_
    refine (ct_lv hT hn hB).2.2 _ _ _ _ _ (by omega) J2 X2.1 (by have := C2; omega) (fun M3 q3 => ?_)
    obtain ⟨f3, q3⟩ := q3
    have F3 := (F2).tr f3
    have b3 := (OK3_lv (f := f) (z := z) 5).2.2 _ X2.1
    generalize r3 : (lv f z 5).2.2 (lxN f z 0) = w3 at q3 b3
    rcases w3 with p3 | ⟨y3, c3, v3⟩
    · have D3 : DJ M3 f z T p3 0 := q3
      refine wp_aload_n dX2_readText_51 rfl rfl ?_
      refine wp_bipush dX2_readText_52 (by decide) (by decide) ?_
      refine wp_callV0 (d' := d - 1) cv_RX2_54 23 rfl [(0, 59)] [] rfl rfl (Or.inl ⟨_, _, rfl, by decide, rfl, by omega, by omega⟩) (by omega) (Nat.le_of_ble_eq_true rfl) dX2_readText_54 rfl (Nat.le_of_ble_eq_true rfl) (by omega) (loc1 := [(2, 23), (0, 59)]) rfl ?_
      refine sp_wantD hT hn (by omega) D3 (by decide) (fun M4 D4 f4 => ?_)
      have F4 := (F3).tr f4
      refine wp_aload_n dX2_readText_57 rfl rfl ?_
      refine wp_get 23 rfl fl_RX2_33 rfl ⟨by omega, by omega⟩ dX2_readText_58 rfl (v := (T : Int)) (D4.2.1) ?_
      refine wp_iload_n dX2_readText_61 rfl rfl ?_
      refine wp_callV0 (d' := d - 1) cv_RX2_61 T rfl [(0, 0)] [] rfl rfl (Or.inl ⟨_, _, hT.k0, by decide, rfl, by omega, by omega⟩) (by omega) (Nat.le_of_ble_eq_true rfl) dX2_readText_62 rfl (Nat.le_of_ble_eq_true rfl) (by omega) (loc1 := [(2, (T : Int)), (0, 0)]) rfl ?_
      refine sp_endPartD_0 hT hn D4 (fun M5 D5 f5 => ?_)
      have H5 := ((H1).tr ((F4).mono VJ.e)).tr (f5.mono VE2.e)
      refine wp_iinc (loc' := [(2, 23), (2, (T : Int)), (0, 1)]) dX2_readText_65 rfl (by omega) rfl ?_
      refine wp_goto (tgt := 33) dX2_readText_68 (by decide) ?_
      refine wp_iload_n dX2_readText_33 rfl rfl ?_
      refine wp_iconst dX2_readText_34 (by decide) ?_
      refine wp_icmp_ge (tgt := 71) dX2_readText_35 (by decide) (fun h => absurd h (by decide)) (fun _ => ?_)
      refine wp_aload_n dX2_readText_38 rfl rfl ?_
      refine wp_sipush dX2_readText_39 (by decide) (by decide) ?_
      refine wp_iload_n dX2_readText_42 rfl rfl ?_
      refine wp_iadd dX2_readText_43 (by omega) ?_
      refine wp_callV0 (d' := d - 1) cv_RX2_54 23 rfl [(0, 257)] [] rfl rfl (Or.inl ⟨_, _, rfl, by decide, rfl, by omega, by omega⟩) (by omega) (Nat.le_of_ble_eq_true rfl) dX2_readText_44 rfl (Nat.le_of_ble_eq_true rfl) (by omega) (loc1 := [(2, 23), (0, 257)]) rfl ?_
      refine sp_wantD hT hn (by omega) D5 (by decide) (fun M6 D6 f6 => ?_)
      have F6 := ((Fr.rf : Fr (VJ T) M5 M5)).tr f6
      refine wp_aload_n dX2_readText_47 rfl rfl ?_
      refine wp_callV0 (d' := d - 1) cv_RX2_58 23 rfl [] [] rfl rfl (Or.inl ⟨_, _, rfl, by decide, rfl, by omega, by omega⟩) (by omega) (Nat.le_of_ble_eq_true rfl) dX2_readText_48 rfl (Nat.le_of_ble_eq_true rfl) (by omega) (loc1 := [(2, 23), (9, 0)]) rfl ?_
      refine ((ctd_Or hT hn).up (by omega : 18 ≤ 60)) _ _ _ _ _ (by omega) D6 (fun M7 f7 D7 => ?_)
      have F7 := (F6).tr f7
      refine wp_aload_n dX2_readText_51 rfl rfl ?_
      refine wp_bipush dX2_readText_52 (by decide) (by decide) ?_
      refine wp_callV0 (d' := d - 1) cv_RX2_54 23 rfl [(0, 59)] [] rfl rfl (Or.inl ⟨_, _, rfl, by decide, rfl, by omega, by omega⟩) (by omega) (Nat.le_of_ble_eq_true rfl) dX2_readText_54 rfl (Nat.le_of_ble_eq_true rfl) (by omega) (loc1 := [(2, 23), (0, 59)]) rfl ?_
      refine sp_wantD hT hn (by omega) D7 (by decide) (fun M8 D8 f8 => ?_)
      have F8 := (F7).tr f8
      refine wp_aload_n dX2_readText_57 rfl rfl ?_
      refine wp_get 23 rfl fl_RX2_33 rfl ⟨by omega, by omega⟩ dX2_readText_58 rfl (v := (T : Int)) (D8.2.1) ?_
      refine wp_iload_n dX2_readText_61 rfl rfl ?_
      refine wp_callV0 (d' := d - 1) cv_RX2_61 T rfl [(0, 1)] [] rfl rfl (Or.inl ⟨_, _, hT.k0, by decide, rfl, by omega, by omega⟩) (by omega) (Nat.le_of_ble_eq_true rfl) dX2_readText_62 rfl (Nat.le_of_ble_eq_true rfl) (by omega) (loc1 := [(2, (T : Int)), (0, 1)]) rfl ?_
      refine sp_endPartD_1 hT hn D8 (fun M9 D9 f9 => ?_)
      have H9 := ((H5).tr ((F8).mono VJ.e)).tr (f9.mono VE2.e)
      refine wp_iinc (loc' := [(2, 23), (2, (T : Int)), (0, 2)]) dX2_readText_65 rfl (by omega) rfl ?_
      refine wp_goto (tgt := 33) dX2_readText_68 (by decide) ?_
      refine wp_iload_n dX2_readText_33 rfl rfl ?_
      refine wp_iconst dX2_readText_34 (by decide) ?_
      refine wp_icmp_ge (tgt := 71) dX2_readText_35 (by decide) (fun h => absurd h (by decide)) (fun _ => ?_)
      refine wp_aload_n dX2_readText_38 rfl rfl ?_
      refine wp_sipush dX2_readText_39 (by decide) (by decide) ?_
      refine wp_iload_n dX2_readText_42 rfl rfl ?_
      refine wp_iadd dX2_readText_43 (by omega) ?_
      refine wp_callV0 (d' := d - 1) cv_RX2_54 23 rfl [(0, 258)] [] rfl rfl (Or.inl ⟨_, _, rfl, by decide, rfl, by omega, by omega⟩) (by omega) (Nat.le_of_ble_eq_true rfl) dX2_readText_44 rfl (Nat.le_of_ble_eq_true rfl) (by omega) (loc1 := [(2, 23), (0, 258)]) rfl ?_
      refine sp_wantD hT hn (by omega) D9 (by decide) (fun M10 D10 f10 => ?_)
      have F10 := ((Fr.rf : Fr (VJ T) M9 M9)).tr f10
      refine wp_aload_n dX2_readText_47 rfl rfl ?_
      refine wp_callV0 (d' := d - 1) cv_RX2_58 23 rfl [] [] rfl rfl (Or.inl ⟨_, _, rfl, by decide, rfl, by omega, by omega⟩) (by omega) (Nat.le_of_ble_eq_true rfl) dX2_readText_48 rfl (Nat.le_of_ble_eq_true rfl) (by omega) (loc1 := [(2, 23), (9, 0)]) rfl ?_
      refine ((ctd_Or hT hn).up (by omega : 18 ≤ 60)) _ _ _ _ _ (by omega) D10 (fun M11 f11 D11 => ?_)
      have F11 := (F10).tr f11
      refine wp_aload_n dX2_readText_51 rfl rfl ?_
      refine wp_bipush dX2_readText_52 (by decide) (by decide) ?_
      refine wp_callV0 (d' := d - 1) cv_RX2_54 23 rfl [(0, 59)] [] rfl rfl (Or.inl ⟨_, _, rfl, by decide, rfl, by omega, by omega⟩) (by omega) (Nat.le_of_ble_eq_true rfl) dX2_readText_54 rfl (Nat.le_of_ble_eq_true rfl) (by omega) (loc1 := [(2, 23), (0, 59)]) rfl ?_
      refine sp_wantD hT hn (by omega) D11 (by decide) (fun M12 D12 f12 => ?_)
      have F12 := (F11).tr f12
      refine wp_aload_n dX2_readText_57 rfl rfl ?_
      refine wp_get 23 rfl fl_RX2_33 rfl ⟨by omega, by omega⟩ dX2_readText_58 rfl (v := (T : Int)) (D12.2.1) ?_
      refine wp_iload_n dX2_readText_61 rfl rfl ?_
      refine wp_callV0 (d' := d - 1) cv_RX2_61 T rfl [(0, 2)] [] rfl rfl (Or.inl ⟨_, _, hT.k0, by decide, rfl, by omega, by omega⟩) (by omega) (Nat.le_of_ble_eq_true rfl) dX2_readText_62 rfl (Nat.le_of_ble_eq_true rfl) (by omega) (loc1 := [(2, (T : Int)), (0, 2)]) rfl ?_
      refine sp_endPartD_2 hT hn D12 (fun M13 D13 f13 => ?_)
      have H13 := ((H9).tr ((F12).mono VJ.e)).tr (f13.mono VE2.e)
      refine wp_iinc (loc' := [(2, 23), (2, (T : Int)), (0, 3)]) dX2_readText_65 rfl (by omega) rfl ?_
      refine wp_goto (tgt := 33) dX2_readText_68 (by decide) ?_
      refine wp_iload_n dX2_readText_33 rfl rfl ?_
      refine wp_iconst dX2_readText_34 (by decide) ?_
      refine wp_icmp_ge (tgt := 71) dX2_readText_35 (by decide) (fun _ => ?_) (fun h => absurd h (by decide))
      refine wp_aload_n dX2_readText_71 rfl rfl ?_
      refine wp_iconst dX2_readText_72 (by decide) ?_
      refine wp_callV0 (d' := d - 1) cv_RX2_54 23 rfl [(0, 0)] [] rfl rfl (Or.inl ⟨_, _, rfl, by decide, rfl, by omega, by omega⟩) (by omega) (Nat.le_of_ble_eq_true rfl) dX2_readText_73 rfl (Nat.le_of_ble_eq_true rfl) (by omega) (loc1 := [(2, 23), (0, 0)]) rfl ?_
      refine sp_wantD hT hn (by omega) D13 (by decide) (fun M14 D14 f14 => ?_)
      have F14 := ((Fr.rf : Fr (VJ T) M13 M13)).tr f14
      refine wp_aload_n dX2_readText_76 rfl rfl ?_
      refine wp_iconst dX2_readText_77 (by decide) ?_
      refine wp_puti 23 rfl fl_RX2_15 rfl ⟨by omega, by omega⟩ dX2_readText_78 rfl rfl ?_
      refine wp_aload_n dX2_readText_81 rfl rfl ?_
      refine wp_get 23 rfl fl_RX2_48 rfl ⟨by omega, by omega⟩ dX2_readText_82 rfl (v := ((p3 : Nat) : Int)) (D14.2.2.2.2) ?_
      refine wp_iret rfl dX2_readText_85 ?_
      have u0 : prtP f z 256 0 = .inl p3 := by unfold prtP; rw [if_pos t2, r3]; rfl
      have FF : Fr (VE T) M (mu M14 23 1 0) := ((H13).tr ((F14).mono VJ.e)).put (Or.inl ⟨rfl, by omega⟩)
      have ee : txtP f z = .inl p3 := by unfold txtP; rw [u0]
      exact kf _ _ ee FF rfl
    · have J3 : RJ M3 f z T y3 (([] : List Int) ++ c3) 0 := q3
      obtain ⟨b3, B3, _⟩ : (lxN f z 0) + c3.length ≤ y3 ∧ (y3 : Int) ≤ z ∧ _ := b3
      have C3 : ((([] : List Int) ++ c3)).length + 1 ≤ y3 := by rw [List.length_append]; have := C2; omega
      refine wp_aload_n dX2_readText_51 rfl rfl ?_
      refine wp_bipush dX2_readText_52 (by decide) (by decide) ?_
      refine wp_callV0 (d' := d - 1) cv_RX2_54 23 rfl [(0, 59)] [] rfl rfl (Or.inl ⟨_, _, rfl, by decide, rfl, by omega, by omega⟩) (by omega) (Nat.le_of_ble_eq_true rfl) dX2_readText_54 rfl (Nat.le_of_ble_eq_true rfl) (by omega) (loc1 := [(2, 23), (0, 59)]) rfl ?_
      refine sp_want hT hn (by omega) hB J3 B3 59 (fun t15 M15 J15 f15 => ?_) (fun t15 M15 D15 f15 => ?_)
      · have F15 := (F3).tr f15
        have X15 := lxN_le (f := f) B3
        have Y15 := lxA_le (f := f) B3
        have C15 : ((([] : List Int) ++ c3)).length + 2 ≤ (lxN f z y3) := by have := C3; have := X15.2.2 (by omega); omega
        refine wp_aload_n dX2_readText_57 rfl rfl ?_
        refine wp_get 23 rfl fl_RX2_33 rfl ⟨by omega, by omega⟩ dX2_readText_58 rfl (v := (T : Int)) (J15.2.1) ?_
        refine wp_iload_n dX2_readText_61 rfl rfl ?_
        refine wp_callV0 (d' := d - 1) cv_RX2_61 T rfl [(0, 0)] [] rfl rfl (Or.inl ⟨_, _, hT.k0, by decide, rfl, by omega, by omega⟩) (by omega) (Nat.le_of_ble_eq_true rfl) dX2_readText_62 rfl (Nat.le_of_ble_eq_true rfl) (by omega) (loc1 := [(2, (T : Int)), (0, 0)]) rfl ?_
        refine sp_endPart_0 hT hn J15 (fun M16 J16 e16 g16 f16 => ?_)
        have H16 := ((H1).tr ((F15).mono VJ.e)).tr (f16.mono VE2.e)
        refine wp_iinc (loc' := [(2, 23), (2, (T : Int)), (0, 1)]) dX2_readText_65 rfl (by omega) rfl ?_
        refine wp_goto (tgt := 33) dX2_readText_68 (by decide) ?_
        refine wp_iload_n dX2_readText_33 rfl rfl ?_
        refine wp_iconst dX2_readText_34 (by decide) ?_
        refine wp_icmp_ge (tgt := 71) dX2_readText_35 (by decide) (fun h => absurd h (by decide)) (fun _ => ?_)
        refine wp_aload_n dX2_readText_38 rfl rfl ?_
        refine wp_sipush dX2_readText_39 (by decide) (by decide) ?_
        refine wp_iload_n dX2_readText_42 rfl rfl ?_
        refine wp_iadd dX2_readText_43 (by omega) ?_
        refine wp_callV0 (d' := d - 1) cv_RX2_54 23 rfl [(0, 257)] [] rfl rfl (Or.inl ⟨_, _, rfl, by decide, rfl, by omega, by omega⟩) (by omega) (Nat.le_of_ble_eq_true rfl) dX2_readText_44 rfl (Nat.le_of_ble_eq_true rfl) (by omega) (loc1 := [(2, 23), (0, 257)]) rfl ?_
        refine sp_want hT hn (by omega) hB J16 X15.1 257 (fun t17 M17 J17 f17 => ?_) (fun t17 M17 D17 f17 => ?_)
        · have F17 := ((Fr.rf : Fr (VJ T) M16 M16)).tr f17
          have X17 := lxN_le (f := f) X15.1
          have Y17 := lxA_le (f := f) X15.1
          have C17 : ((([] : List Int) ++ c3)).length + 3 ≤ (lxN f z (lxN f z y3)) := by have := C15; have := X17.2.2 (by omega); omega
          refine wp_aload_n dX2_readText_47 rfl rfl ?_
          refine wp_callV0 (d' := d - 1) cv_RX2_58 23 rfl [] [] rfl rfl (Or.inl ⟨_, _, rfl, by decide, rfl, by omega, by omega⟩) (by omega) (Nat.le_of_ble_eq_true rfl) dX2_readText_48 rfl (Nat.le_of_ble_eq_true rfl) (by omega) (loc1 := [(2, 23), (9, 0)]) rfl ?_
          refine (ct_lv hT hn hB).2.2 _ _ _ _ _ (by omega) J17 X17.1 (by have := C17; omega) (fun M18 q18 => ?_)
          obtain ⟨f18, q18⟩ := q18
          have F18 := (F17).tr f18
          have b18 := (OK3_lv (f := f) (z := z) 5).2.2 _ X17.1
          generalize r18 : (lv f z 5).2.2 (lxN f z (lxN f z y3)) = w18 at q18 b18
          rcases w18 with p18 | ⟨y18, c18, v18⟩
          · have D18 : DJ M18 f z T p18 0 := q18
            refine wp_aload_n dX2_readText_51 rfl rfl ?_
            refine wp_bipush dX2_readText_52 (by decide) (by decide) ?_
            refine wp_callV0 (d' := d - 1) cv_RX2_54 23 rfl [(0, 59)] [] rfl rfl (Or.inl ⟨_, _, rfl, by decide, rfl, by omega, by omega⟩) (by omega) (Nat.le_of_ble_eq_true rfl) dX2_readText_54 rfl (Nat.le_of_ble_eq_true rfl) (by omega) (loc1 := [(2, 23), (0, 59)]) rfl ?_
            refine sp_wantD hT hn (by omega) D18 (by decide) (fun M19 D19 f19 => ?_)
            have F19 := (F18).tr f19
            refine wp_aload_n dX2_readText_57 rfl rfl ?_
            refine wp_get 23 rfl fl_RX2_33 rfl ⟨by omega, by omega⟩ dX2_readText_58 rfl (v := (T : Int)) (D19.2.1) ?_
            refine wp_iload_n dX2_readText_61 rfl rfl ?_
            refine wp_callV0 (d' := d - 1) cv_RX2_61 T rfl [(0, 1)] [] rfl rfl (Or.inl ⟨_, _, hT.k0, by decide, rfl, by omega, by omega⟩) (by omega) (Nat.le_of_ble_eq_true rfl) dX2_readText_62 rfl (Nat.le_of_ble_eq_true rfl) (by omega) (loc1 := [(2, (T : Int)), (0, 1)]) rfl ?_
            refine sp_endPartD_1 hT hn D19 (fun M20 D20 f20 => ?_)
            have H20 := ((H16).tr ((F19).mono VJ.e)).tr (f20.mono VE2.e)
            refine wp_iinc (loc' := [(2, 23), (2, (T : Int)), (0, 2)]) dX2_readText_65 rfl (by omega) rfl ?_
            refine wp_goto (tgt := 33) dX2_readText_68 (by decide) ?_
            refine wp_iload_n dX2_readText_33 rfl rfl ?_
            refine wp_iconst dX2_readText_34 (by decide) ?_
            refine wp_icmp_ge (tgt := 71) dX2_readText_35 (by decide) (fun h => absurd h (by decide)) (fun _ => ?_)
            refine wp_aload_n dX2_readText_38 rfl rfl ?_
            refine wp_sipush dX2_readText_39 (by decide) (by decide) ?_
            refine wp_iload_n dX2_readText_42 rfl rfl ?_
            refine wp_iadd dX2_readText_43 (by omega) ?_
            refine wp_callV0 (d' := d - 1) cv_RX2_54 23 rfl [(0, 258)] [] rfl rfl (Or.inl ⟨_, _, rfl, by decide, rfl, by omega, by omega⟩) (by omega) (Nat.le_of_ble_eq_true rfl) dX2_readText_44 rfl (Nat.le_of_ble_eq_true rfl) (by omega) (loc1 := [(2, 23), (0, 258)]) rfl ?_
            refine sp_wantD hT hn (by omega) D20 (by decide) (fun M21 D21 f21 => ?_)
            have F21 := ((Fr.rf : Fr (VJ T) M20 M20)).tr f21
            refine wp_aload_n dX2_readText_47 rfl rfl ?_
            refine wp_callV0 (d' := d - 1) cv_RX2_58 23 rfl [] [] rfl rfl (Or.inl ⟨_, _, rfl, by decide, rfl, by omega, by omega⟩) (by omega) (Nat.le_of_ble_eq_true rfl) dX2_readText_48 rfl (Nat.le_of_ble_eq_true rfl) (by omega) (loc1 := [(2, 23), (9, 0)]) rfl ?_
            refine ((ctd_Or hT hn).up (by omega : 18 ≤ 60)) _ _ _ _ _ (by omega) D21 (fun M22 f22 D22 => ?_)
            have F22 := (F21).tr f22
            refine wp_aload_n dX2_readText_51 rfl rfl ?_
            refine wp_bipush dX2_readText_52 (by decide) (by decide) ?_
            refine wp_callV0 (d' := d - 1) cv_RX2_54 23 rfl [(0, 59)] [] rfl rfl (Or.inl ⟨_, _, rfl, by decide, rfl, by omega, by omega⟩) (by omega) (Nat.le_of_ble_eq_true rfl) dX2_readText_54 rfl (Nat.le_of_ble_eq_true rfl) (by omega) (loc1 := [(2, 23), (0, 59)]) rfl ?_
            refine sp_wantD hT hn (by omega) D22 (by decide) (fun M23 D23 f23 => ?_)
            have F23 := (F22).tr f23
            refine wp_aload_n dX2_readText_57 rfl rfl ?_
            refine wp_get 23 rfl fl_RX2_33 rfl ⟨by omega, by omega⟩ dX2_readText_58 rfl (v := (T : Int)) (D23.2.1) ?_
            refine wp_iload_n dX2_readText_61 rfl rfl ?_
            refine wp_callV0 (d' := d - 1) cv_RX2_61 T rfl [(0, 2)] [] rfl rfl (Or.inl ⟨_, _, hT.k0, by decide, rfl, by omega, by omega⟩) (by omega) (Nat.le_of_ble_eq_true rfl) dX2_readText_62 rfl (Nat.le_of_ble_eq_true rfl) (by omega) (loc1 := [(2, (T : Int)), (0, 2)]) rfl ?_
            refine sp_endPartD_2 hT hn D23 (fun M24 D24 f24 => ?_)
            have H24 := ((H20).tr ((F23).mono VJ.e)).tr (f24.mono VE2.e)
            refine wp_iinc (loc' := [(2, 23), (2, (T : Int)), (0, 3)]) dX2_readText_65 rfl (by omega) rfl ?_
            refine wp_goto (tgt := 33) dX2_readText_68 (by decide) ?_
            refine wp_iload_n dX2_readText_33 rfl rfl ?_
            refine wp_iconst dX2_readText_34 (by decide) ?_
            refine wp_icmp_ge (tgt := 71) dX2_readText_35 (by decide) (fun _ => ?_) (fun h => absurd h (by decide))
            refine wp_aload_n dX2_readText_71 rfl rfl ?_
            refine wp_iconst dX2_readText_72 (by decide) ?_
            refine wp_callV0 (d' := d - 1) cv_RX2_54 23 rfl [(0, 0)] [] rfl rfl (Or.inl ⟨_, _, rfl, by decide, rfl, by omega, by omega⟩) (by omega) (Nat.le_of_ble_eq_true rfl) dX2_readText_73 rfl (Nat.le_of_ble_eq_true rfl) (by omega) (loc1 := [(2, 23), (0, 0)]) rfl ?_
            refine sp_wantD hT hn (by omega) D24 (by decide) (fun M25 D25 f25 => ?_)
            have F25 := ((Fr.rf : Fr (VJ T) M24 M24)).tr f25
            refine wp_aload_n dX2_readText_76 rfl rfl ?_
            refine wp_iconst dX2_readText_77 (by decide) ?_
            refine wp_puti 23 rfl fl_RX2_15 rfl ⟨by omega, by omega⟩ dX2_readText_78 rfl rfl ?_
            refine wp_aload_n dX2_readText_81 rfl rfl ?_
            refine wp_get 23 rfl fl_RX2_48 rfl ⟨by omega, by omega⟩ dX2_readText_82 rfl (v := ((p18 : Nat) : Int)) (D25.2.2.2.2) ?_
            refine wp_iret rfl dX2_readText_85 ?_
            have u0 : prtP f z 256 0 = .inr (lxN f z y3, c3, v3) := by unfold prtP; rw [if_pos t2, r3]; exact if_pos t15
            have u1 : prtP f z 257 (lxN f z y3) = .inl p18 := by unfold prtP; rw [if_pos t17, r18]; rfl
            have FF : Fr (VE T) M (mu M25 23 1 0) := ((H24).tr ((F25).mono VJ.e)).put (Or.inl ⟨rfl, by omega⟩)
            have ee : txtP f z = .inl p18 := by unfold txtP; rw [u0]; dsimp only; rw [u1]
            exact kf _ _ ee FF rfl
          · have J18 : RJ M18 f z T y18 ((([] : List Int) ++ c3) ++ c18) 0 := q18
            obtain ⟨b18, B18, _⟩ : (lxN f z (lxN f z y3)) + c18.length ≤ y18 ∧ (y18 : Int) ≤ z ∧ _ := b18
            have C18 : (((([] : List Int) ++ c3) ++ c18)).length + 3 ≤ y18 := by rw [List.length_append]; have := C17; omega
            refine wp_aload_n dX2_readText_51 rfl rfl ?_
            refine wp_bipush dX2_readText_52 (by decide) (by decide) ?_
            refine wp_callV0 (d' := d - 1) cv_RX2_54 23 rfl [(0, 59)] [] rfl rfl (Or.inl ⟨_, _, rfl, by decide, rfl, by omega, by omega⟩) (by omega) (Nat.le_of_ble_eq_true rfl) dX2_readText_54 rfl (Nat.le_of_ble_eq_true rfl) (by omega) (loc1 := [(2, 23), (0, 59)]) rfl ?_
            refine sp_want hT hn (by omega) hB J18 B18 59 (fun t26 M26 J26 f26 => ?_) (fun t26 M26 D26 f26 => ?_)
            · have F26 := (F18).tr f26
              have X26 := lxN_le (f := f) B18
              have Y26 := lxA_le (f := f) B18
              have C26 : (((([] : List Int) ++ c3) ++ c18)).length + 4 ≤ (lxN f z y18) := by have := C18; have := X26.2.2 (by omega); omega
              refine wp_aload_n dX2_readText_57 rfl rfl ?_
              refine wp_get 23 rfl fl_RX2_33 rfl ⟨by omega, by omega⟩ dX2_readText_58 rfl (v := (T : Int)) (J26.2.1) ?_
              refine wp_iload_n dX2_readText_61 rfl rfl ?_
              refine wp_callV0 (d' := d - 1) cv_RX2_61 T rfl [(0, 1)] [] rfl rfl (Or.inl ⟨_, _, hT.k0, by decide, rfl, by omega, by omega⟩) (by omega) (Nat.le_of_ble_eq_true rfl) dX2_readText_62 rfl (Nat.le_of_ble_eq_true rfl) (by omega) (loc1 := [(2, (T : Int)), (0, 1)]) rfl ?_
              refine sp_endPart_1 hT hn J26 (fun M27 J27 e27 g27 f27 => ?_)
              have H27 := ((H16).tr ((F26).mono VJ.e)).tr (f27.mono VE2.e)
              have e27_0 := (g27 0 (by omega)).trans (((F26) (T + 2) 0 (by unfold VJ; omega)).trans e16)
              refine wp_iinc (loc' := [(2, 23), (2, (T : Int)), (0, 2)]) dX2_readText_65 rfl (by omega) rfl ?_
              refine wp_goto (tgt := 33) dX2_readText_68 (by decide) ?_
              refine wp_iload_n dX2_readText_33 rfl rfl ?_
              refine wp_iconst dX2_readText_34 (by decide) ?_
              refine wp_icmp_ge (tgt := 71) dX2_readText_35 (by decide) (fun h => absurd h (by decide)) (fun _ => ?_)
              refine wp_aload_n dX2_readText_38 rfl rfl ?_
              refine wp_sipush dX2_readText_39 (by decide) (by decide) ?_
              refine wp_iload_n dX2_readText_42 rfl rfl ?_
              refine wp_iadd dX2_readText_43 (by omega) ?_
              refine wp_callV0 (d' := d - 1) cv_RX2_54 23 rfl [(0, 258)] [] rfl rfl (Or.inl ⟨_, _, rfl, by decide, rfl, by omega, by omega⟩) (by omega) (Nat.le_of_ble_eq_true rfl) dX2_readText_44 rfl (Nat.le_of_ble_eq_true rfl) (by omega) (loc1 := [(2, 23), (0, 258)]) rfl ?_
              refine sp_want hT hn (by omega) hB J27 X26.1 258 (fun t28 M28 J28 f28 => ?_) (fun t28 M28 D28 f28 => ?_)
              · have F28 := ((Fr.rf : Fr (VJ T) M27 M27)).tr f28
                have X28 := lxN_le (f := f) X26.1
                have Y28 := lxA_le (f := f) X26.1
                have C28 : (((([] : List Int) ++ c3) ++ c18)).length + 5 ≤ (lxN f z (lxN f z y18)) := by have := C26; have := X28.2.2 (by omega); omega
                refine wp_aload_n dX2_readText_47 rfl rfl ?_
                refine wp_callV0 (d' := d - 1) cv_RX2_58 23 rfl [] [] rfl rfl (Or.inl ⟨_, _, rfl, by decide, rfl, by omega, by omega⟩) (by omega) (Nat.le_of_ble_eq_true rfl) dX2_readText_48 rfl (Nat.le_of_ble_eq_true rfl) (by omega) (loc1 := [(2, 23), (9, 0)]) rfl ?_
                refine (ct_lv hT hn hB).2.2 _ _ _ _ _ (by omega) J28 X28.1 (by have := C28; omega) (fun M29 q29 => ?_)
                obtain ⟨f29, q29⟩ := q29
                have F29 := (F28).tr f29
                have b29 := (OK3_lv (f := f) (z := z) 5).2.2 _ X28.1
                generalize r29 : (lv f z 5).2.2 (lxN f z (lxN f z y18)) = w29 at q29 b29
                rcases w29 with p29 | ⟨y29, c29, v29⟩
                · have D29 : DJ M29 f z T p29 0 := q29
                  refine wp_aload_n dX2_readText_51 rfl rfl ?_
                  refine wp_bipush dX2_readText_52 (by decide) (by decide) ?_
                  refine wp_callV0 (d' := d - 1) cv_RX2_54 23 rfl [(0, 59)] [] rfl rfl (Or.inl ⟨_, _, rfl, by decide, rfl, by omega, by omega⟩) (by omega) (Nat.le_of_ble_eq_true rfl) dX2_readText_54 rfl (Nat.le_of_ble_eq_true rfl) (by omega) (loc1 := [(2, 23), (0, 59)]) rfl ?_
                  refine sp_wantD hT hn (by omega) D29 (by decide) (fun M30 D30 f30 => ?_)
                  have F30 := (F29).tr f30
                  refine wp_aload_n dX2_readText_57 rfl rfl ?_
                  refine wp_get 23 rfl fl_RX2_33 rfl ⟨by omega, by omega⟩ dX2_readText_58 rfl (v := (T : Int)) (D30.2.1) ?_
                  refine wp_iload_n dX2_readText_61 rfl rfl ?_
                  refine wp_callV0 (d' := d - 1) cv_RX2_61 T rfl [(0, 2)] [] rfl rfl (Or.inl ⟨_, _, hT.k0, by decide, rfl, by omega, by omega⟩) (by omega) (Nat.le_of_ble_eq_true rfl) dX2_readText_62 rfl (Nat.le_of_ble_eq_true rfl) (by omega) (loc1 := [(2, (T : Int)), (0, 2)]) rfl ?_
                  refine sp_endPartD_2 hT hn D30 (fun M31 D31 f31 => ?_)
                  have H31 := ((H27).tr ((F30).mono VJ.e)).tr (f31.mono VE2.e)
                  refine wp_iinc (loc' := [(2, 23), (2, (T : Int)), (0, 3)]) dX2_readText_65 rfl (by omega) rfl ?_
                  refine wp_goto (tgt := 33) dX2_readText_68 (by decide) ?_
                  refine wp_iload_n dX2_readText_33 rfl rfl ?_
                  refine wp_iconst dX2_readText_34 (by decide) ?_
                  refine wp_icmp_ge (tgt := 71) dX2_readText_35 (by decide) (fun _ => ?_) (fun h => absurd h (by decide))
                  refine wp_aload_n dX2_readText_71 rfl rfl ?_
                  refine wp_iconst dX2_readText_72 (by decide) ?_
                  refine wp_callV0 (d' := d - 1) cv_RX2_54 23 rfl [(0, 0)] [] rfl rfl (Or.inl ⟨_, _, rfl, by decide, rfl, by omega, by omega⟩) (by omega) (Nat.le_of_ble_eq_true rfl) dX2_readText_73 rfl (Nat.le_of_ble_eq_true rfl) (by omega) (loc1 := [(2, 23), (0, 0)]) rfl ?_
                  refine sp_wantD hT hn (by omega) D31 (by decide) (fun M32 D32 f32 => ?_)
                  have F32 := ((Fr.rf : Fr (VJ T) M31 M31)).tr f32
                  refine wp_aload_n dX2_readText_76 rfl rfl ?_
                  refine wp_iconst dX2_readText_77 (by decide) ?_
                  refine wp_puti 23 rfl fl_RX2_15 rfl ⟨by omega, by omega⟩ dX2_readText_78 rfl rfl ?_
                  refine wp_aload_n dX2_readText_81 rfl rfl ?_
                  refine wp_get 23 rfl fl_RX2_48 rfl ⟨by omega, by omega⟩ dX2_readText_82 rfl (v := ((p29 : Nat) : Int)) (D32.2.2.2.2) ?_
                  refine wp_iret rfl dX2_readText_85 ?_
                  have u0 : prtP f z 256 0 = .inr (lxN f z y3, c3, v3) := by unfold prtP; rw [if_pos t2, r3]; exact if_pos t15
                  have u1 : prtP f z 257 (lxN f z y3) = .inr (lxN f z y18, c18, v18) := by unfold prtP; rw [if_pos t17, r18]; exact if_pos t26
                  have u2 : prtP f z 258 (lxN f z y18) = .inl p29 := by unfold prtP; rw [if_pos t28, r29]; rfl
                  have FF : Fr (VE T) M (mu M32 23 1 0) := ((H31).tr ((F32).mono VJ.e)).put (Or.inl ⟨rfl, by omega⟩)
                  have ee : txtP f z = .inl p29 := by unfold txtP; rw [u0]; dsimp only; rw [u1]; dsimp only; rw [u2]
                  exact kf _ _ ee FF rfl
                · have J29 : RJ M29 f z T y29 (((([] : List Int) ++ c3) ++ c18) ++ c29) 0 := q29
                  obtain ⟨b29, B29, _⟩ : (lxN f z (lxN f z y18)) + c29.length ≤ y29 ∧ (y29 : Int) ≤ z ∧ _ := b29
                  have C29 : ((((([] : List Int) ++ c3) ++ c18) ++ c29)).length + 5 ≤ y29 := by rw [List.length_append]; have := C28; omega
                  refine wp_aload_n dX2_readText_51 rfl rfl ?_
                  refine wp_bipush dX2_readText_52 (by decide) (by decide) ?_
                  refine wp_callV0 (d' := d - 1) cv_RX2_54 23 rfl [(0, 59)] [] rfl rfl (Or.inl ⟨_, _, rfl, by decide, rfl, by omega, by omega⟩) (by omega) (Nat.le_of_ble_eq_true rfl) dX2_readText_54 rfl (Nat.le_of_ble_eq_true rfl) (by omega) (loc1 := [(2, 23), (0, 59)]) rfl ?_
                  refine sp_want hT hn (by omega) hB J29 B29 59 (fun t33 M33 J33 f33 => ?_) (fun t33 M33 D33 f33 => ?_)
                  · have F33 := (F29).tr f33
                    have X33 := lxN_le (f := f) B29
                    have Y33 := lxA_le (f := f) B29
                    have C33 : ((((([] : List Int) ++ c3) ++ c18) ++ c29)).length + 6 ≤ (lxN f z y29) := by have := C29; have := X33.2.2 (by omega); omega
                    refine wp_aload_n dX2_readText_57 rfl rfl ?_
                    refine wp_get 23 rfl fl_RX2_33 rfl ⟨by omega, by omega⟩ dX2_readText_58 rfl (v := (T : Int)) (J33.2.1) ?_
                    refine wp_iload_n dX2_readText_61 rfl rfl ?_
                    refine wp_callV0 (d' := d - 1) cv_RX2_61 T rfl [(0, 2)] [] rfl rfl (Or.inl ⟨_, _, hT.k0, by decide, rfl, by omega, by omega⟩) (by omega) (Nat.le_of_ble_eq_true rfl) dX2_readText_62 rfl (Nat.le_of_ble_eq_true rfl) (by omega) (loc1 := [(2, (T : Int)), (0, 2)]) rfl ?_
                    refine sp_endPart_2 hT hn J33 (fun M34 J34 e34 g34 f34 => ?_)
                    have H34 := ((H27).tr ((F33).mono VJ.e)).tr (f34.mono VE2.e)
                    have e34_0 := (g34 0 (by omega)).trans (((F33) (T + 2) 0 (by unfold VJ; omega)).trans e27_0)
                    have e34_1 := (g34 1 (by omega)).trans (((F33) (T + 2) 1 (by unfold VJ; omega)).trans e27)
                    refine wp_iinc (loc' := [(2, 23), (2, (T : Int)), (0, 3)]) dX2_readText_65 rfl (by omega) rfl ?_
                    refine wp_goto (tgt := 33) dX2_readText_68 (by decide) ?_
                    refine wp_iload_n dX2_readText_33 rfl rfl ?_
                    refine wp_iconst dX2_readText_34 (by decide) ?_
                    refine wp_icmp_ge (tgt := 71) dX2_readText_35 (by decide) (fun _ => ?_) (fun h => absurd h (by decide))
                    refine wp_aload_n dX2_readText_71 rfl rfl ?_
                    refine wp_iconst dX2_readText_72 (by decide) ?_
                    refine wp_callV0 (d' := d - 1) cv_RX2_54 23 rfl [(0, 0)] [] rfl rfl (Or.inl ⟨_, _, rfl, by decide, rfl, by omega, by omega⟩) (by omega) (Nat.le_of_ble_eq_true rfl) dX2_readText_73 rfl (Nat.le_of_ble_eq_true rfl) (by omega) (loc1 := [(2, 23), (0, 0)]) rfl ?_
                    refine sp_want hT hn (by omega) hB J34 X33.1 0 (fun t35 M35 J35 f35 => ?_) (fun t35 M35 D35 f35 => ?_)
                    · have F35 := ((Fr.rf : Fr (VJ T) M34 M34)).tr f35
                      have X35 := lxN_le (f := f) X33.1
                      have Y35 := lxA_le (f := f) X33.1
                      have C35 : ((((([] : List Int) ++ c3) ++ c18) ++ c29)).length + 6 ≤ (lxN f z (lxN f z y29)) := by have := C33; omega
                      refine wp_aload_n dX2_readText_76 rfl rfl ?_
                      refine wp_iconst dX2_readText_77 (by decide) ?_
                      refine wp_puti 23 rfl fl_RX2_15 rfl ⟨by omega, by omega⟩ dX2_readText_78 rfl rfl ?_
                      refine wp_aload_n dX2_readText_81 rfl rfl ?_
                      refine wp_get 23 rfl fl_RX2_48 rfl ⟨by omega, by omega⟩ dX2_readText_82 rfl (v := (-1)) (J35.2.2.2.2.1) ?_
                      refine wp_iret rfl dX2_readText_85 ?_
                      have u0 : prtP f z 256 0 = .inr (lxN f z y3, c3, v3) := by unfold prtP; rw [if_pos t2, r3]; exact if_pos t15
                      have u1 : prtP f z 257 (lxN f z y3) = .inr (lxN f z y18, c18, v18) := by unfold prtP; rw [if_pos t17, r18]; exact if_pos t26
                      have u2 : prtP f z 258 (lxN f z y18) = .inr (lxN f z y29, c29, v29) := by unfold prtP; rw [if_pos t28, r29]; exact if_pos t33
                      have FF : Fr (VE T) M (mu M35 23 1 0) := ((H34).tr ((F35).mono VJ.e)).put (Or.inl ⟨rfl, by omega⟩)
                      have ee : txtP f z = .inr ((c3, v3), (c18, v18), (c29, v29)) := by unfold txtP; rw [u0]; dsimp only; rw [u1]; dsimp only; rw [u2]; exact if_pos t35
                      have tx : TXC M35 T ((c3, v3), (c18, v18), (c29, v29)) := ⟨(J35).2.2.2.2.2, ((F35) (T + 2) 0 (by unfold VJ; omega)).trans e34_0, ((F35) (T + 2) 1 (by unfold VJ; omega)).trans e34_1, ((F35) (T + 2) 2 (by unfold VJ; omega)).trans e34⟩
                      exact kt _ _ ee FF rfl (tx.sz hT 0 23 (Or.inl rfl))
                    · have F35 := ((Fr.rf : Fr (VJ T) M34 M34)).tr f35
                      refine wp_aload_n dX2_readText_76 rfl rfl ?_
                      refine wp_iconst dX2_readText_77 (by decide) ?_
                      refine wp_puti 23 rfl fl_RX2_15 rfl ⟨by omega, by omega⟩ dX2_readText_78 rfl rfl ?_
                      refine wp_aload_n dX2_readText_81 rfl rfl ?_
                      refine wp_get 23 rfl fl_RX2_48 rfl ⟨by omega, by omega⟩ dX2_readText_82 rfl (v := (((lxA f z (lxN f z y29)) : Nat) : Int)) (D35.2.2.2.2) ?_
                      refine wp_iret rfl dX2_readText_85 ?_
                      have u0 : prtP f z 256 0 = .inr (lxN f z y3, c3, v3) := by unfold prtP; rw [if_pos t2, r3]; exact if_pos t15
                      have u1 : prtP f z 257 (lxN f z y3) = .inr (lxN f z y18, c18, v18) := by unfold prtP; rw [if_pos t17, r18]; exact if_pos t26
                      have u2 : prtP f z 258 (lxN f z y18) = .inr (lxN f z y29, c29, v29) := by unfold prtP; rw [if_pos t28, r29]; exact if_pos t33
                      have FF : Fr (VE T) M (mu M35 23 1 0) := ((H34).tr ((F35).mono VJ.e)).put (Or.inl ⟨rfl, by omega⟩)
                      have ee : txtP f z = .inl (lxA f z (lxN f z y29)) := by unfold txtP; rw [u0]; dsimp only; rw [u1]; dsimp only; rw [u2]; exact if_neg t35
                      exact kf _ _ ee FF rfl
                  · have F33 := (F29).tr f33
                    refine wp_aload_n dX2_readText_57 rfl rfl ?_
                    refine wp_get 23 rfl fl_RX2_33 rfl ⟨by omega, by omega⟩ dX2_readText_58 rfl (v := (T : Int)) (D33.2.1) ?_
                    refine wp_iload_n dX2_readText_61 rfl rfl ?_
                    refine wp_callV0 (d' := d - 1) cv_RX2_61 T rfl [(0, 2)] [] rfl rfl (Or.inl ⟨_, _, hT.k0, by decide, rfl, by omega, by omega⟩) (by omega) (Nat.le_of_ble_eq_true rfl) dX2_readText_62 rfl (Nat.le_of_ble_eq_true rfl) (by omega) (loc1 := [(2, (T : Int)), (0, 2)]) rfl ?_
                    refine sp_endPartD_2 hT hn D33 (fun M36 D36 f36 => ?_)
                    have H36 := ((H27).tr ((F33).mono VJ.e)).tr (f36.mono VE2.e)
                    refine wp_iinc (loc' := [(2, 23), (2, (T : Int)), (0, 3)]) dX2_readText_65 rfl (by omega) rfl ?_
                    refine wp_goto (tgt := 33) dX2_readText_68 (by decide) ?_
                    refine wp_iload_n dX2_readText_33 rfl rfl ?_
                    refine wp_iconst dX2_readText_34 (by decide) ?_
                    refine wp_icmp_ge (tgt := 71) dX2_readText_35 (by decide) (fun _ => ?_) (fun h => absurd h (by decide))
                    refine wp_aload_n dX2_readText_71 rfl rfl ?_
                    refine wp_iconst dX2_readText_72 (by decide) ?_
                    refine wp_callV0 (d' := d - 1) cv_RX2_54 23 rfl [(0, 0)] [] rfl rfl (Or.inl ⟨_, _, rfl, by decide, rfl, by omega, by omega⟩) (by omega) (Nat.le_of_ble_eq_true rfl) dX2_readText_73 rfl (Nat.le_of_ble_eq_true rfl) (by omega) (loc1 := [(2, 23), (0, 0)]) rfl ?_
                    refine sp_wantD hT hn (by omega) D36 (by decide) (fun M37 D37 f37 => ?_)
                    have F37 := ((Fr.rf : Fr (VJ T) M36 M36)).tr f37
                    refine wp_aload_n dX2_readText_76 rfl rfl ?_
                    refine wp_iconst dX2_readText_77 (by decide) ?_
                    refine wp_puti 23 rfl fl_RX2_15 rfl ⟨by omega, by omega⟩ dX2_readText_78 rfl rfl ?_
                    refine wp_aload_n dX2_readText_81 rfl rfl ?_
                    refine wp_get 23 rfl fl_RX2_48 rfl ⟨by omega, by omega⟩ dX2_readText_82 rfl (v := (((lxA f z y29) : Nat) : Int)) (D37.2.2.2.2) ?_
                    refine wp_iret rfl dX2_readText_85 ?_
                    have u0 : prtP f z 256 0 = .inr (lxN f z y3, c3, v3) := by unfold prtP; rw [if_pos t2, r3]; exact if_pos t15
                    have u1 : prtP f z 257 (lxN f z y3) = .inr (lxN f z y18, c18, v18) := by unfold prtP; rw [if_pos t17, r18]; exact if_pos t26
                    have u2 : prtP f z 258 (lxN f z y18) = .inl (lxA f z y29) := by unfold prtP; rw [if_pos t28, r29]; exact if_neg t33
                    have FF : Fr (VE T) M (mu M37 23 1 0) := ((H36).tr ((F37).mono VJ.e)).put (Or.inl ⟨rfl, by omega⟩)
                    have ee : txtP f z = .inl (lxA f z y29) := by unfold txtP; rw [u0]; dsimp only; rw [u1]; dsimp only; rw [u2]
                    exact kf _ _ ee FF rfl
              · have F28 := ((Fr.rf : Fr (VJ T) M27 M27)).tr f28
                refine wp_aload_n dX2_readText_47 rfl rfl ?_
                refine wp_callV0 (d' := d - 1) cv_RX2_58 23 rfl [] [] rfl rfl (Or.inl ⟨_, _, rfl, by decide, rfl, by omega, by omega⟩) (by omega) (Nat.le_of_ble_eq_true rfl) dX2_readText_48 rfl (Nat.le_of_ble_eq_true rfl) (by omega) (loc1 := [(2, 23), (9, 0)]) rfl ?_
                refine ((ctd_Or hT hn).up (by omega : 18 ≤ 60)) _ _ _ _ _ (by omega) D28 (fun M38 f38 D38 => ?_)
                have F38 := (F28).tr f38
                refine wp_aload_n dX2_readText_51 rfl rfl ?_
                refine wp_bipush dX2_readText_52 (by decide) (by decide) ?_
                refine wp_callV0 (d' := d - 1) cv_RX2_54 23 rfl [(0, 59)] [] rfl rfl (Or.inl ⟨_, _, rfl, by decide, rfl, by omega, by omega⟩) (by omega) (Nat.le_of_ble_eq_true rfl) dX2_readText_54 rfl (Nat.le_of_ble_eq_true rfl) (by omega) (loc1 := [(2, 23), (0, 59)]) rfl ?_
                refine sp_wantD hT hn (by omega) D38 (by decide) (fun M39 D39 f39 => ?_)
                have F39 := (F38).tr f39
                refine wp_aload_n dX2_readText_57 rfl rfl ?_
                refine wp_get 23 rfl fl_RX2_33 rfl ⟨by omega, by omega⟩ dX2_readText_58 rfl (v := (T : Int)) (D39.2.1) ?_
                refine wp_iload_n dX2_readText_61 rfl rfl ?_
                refine wp_callV0 (d' := d - 1) cv_RX2_61 T rfl [(0, 2)] [] rfl rfl (Or.inl ⟨_, _, hT.k0, by decide, rfl, by omega, by omega⟩) (by omega) (Nat.le_of_ble_eq_true rfl) dX2_readText_62 rfl (Nat.le_of_ble_eq_true rfl) (by omega) (loc1 := [(2, (T : Int)), (0, 2)]) rfl ?_
                refine sp_endPartD_2 hT hn D39 (fun M40 D40 f40 => ?_)
                have H40 := ((H27).tr ((F39).mono VJ.e)).tr (f40.mono VE2.e)
                refine wp_iinc (loc' := [(2, 23), (2, (T : Int)), (0, 3)]) dX2_readText_65 rfl (by omega) rfl ?_
                refine wp_goto (tgt := 33) dX2_readText_68 (by decide) ?_
                refine wp_iload_n dX2_readText_33 rfl rfl ?_
                refine wp_iconst dX2_readText_34 (by decide) ?_
                refine wp_icmp_ge (tgt := 71) dX2_readText_35 (by decide) (fun _ => ?_) (fun h => absurd h (by decide))
                refine wp_aload_n dX2_readText_71 rfl rfl ?_
                refine wp_iconst dX2_readText_72 (by decide) ?_
                refine wp_callV0 (d' := d - 1) cv_RX2_54 23 rfl [(0, 0)] [] rfl rfl (Or.inl ⟨_, _, rfl, by decide, rfl, by omega, by omega⟩) (by omega) (Nat.le_of_ble_eq_true rfl) dX2_readText_73 rfl (Nat.le_of_ble_eq_true rfl) (by omega) (loc1 := [(2, 23), (0, 0)]) rfl ?_
                refine sp_wantD hT hn (by omega) D40 (by decide) (fun M41 D41 f41 => ?_)
                have F41 := ((Fr.rf : Fr (VJ T) M40 M40)).tr f41
                refine wp_aload_n dX2_readText_76 rfl rfl ?_
                refine wp_iconst dX2_readText_77 (by decide) ?_
                refine wp_puti 23 rfl fl_RX2_15 rfl ⟨by omega, by omega⟩ dX2_readText_78 rfl rfl ?_
                refine wp_aload_n dX2_readText_81 rfl rfl ?_
                refine wp_get 23 rfl fl_RX2_48 rfl ⟨by omega, by omega⟩ dX2_readText_82 rfl (v := (((lxA f z (lxN f z y18)) : Nat) : Int)) (D41.2.2.2.2) ?_
                refine wp_iret rfl dX2_readText_85 ?_
                have u0 : prtP f z 256 0 = .inr (lxN f z y3, c3, v3) := by unfold prtP; rw [if_pos t2, r3]; exact if_pos t15
                have u1 : prtP f z 257 (lxN f z y3) = .inr (lxN f z y18, c18, v18) := by unfold prtP; rw [if_pos t17, r18]; exact if_pos t26
                have u2 : prtP f z 258 (lxN f z y18) = .inl (lxA f z (lxN f z y18)) := if_neg t28
                have FF : Fr (VE T) M (mu M41 23 1 0) := ((H40).tr ((F41).mono VJ.e)).put (Or.inl ⟨rfl, by omega⟩)
                have ee : txtP f z = .inl (lxA f z (lxN f z y18)) := by unfold txtP; rw [u0]; dsimp only; rw [u1]; dsimp only; rw [u2]
                exact kf _ _ ee FF rfl
            · have F26 := (F18).tr f26
              refine wp_aload_n dX2_readText_57 rfl rfl ?_
              refine wp_get 23 rfl fl_RX2_33 rfl ⟨by omega, by omega⟩ dX2_readText_58 rfl (v := (T : Int)) (D26.2.1) ?_
              refine wp_iload_n dX2_readText_61 rfl rfl ?_
              refine wp_callV0 (d' := d - 1) cv_RX2_61 T rfl [(0, 1)] [] rfl rfl (Or.inl ⟨_, _, hT.k0, by decide, rfl, by omega, by omega⟩) (by omega) (Nat.le_of_ble_eq_true rfl) dX2_readText_62 rfl (Nat.le_of_ble_eq_true rfl) (by omega) (loc1 := [(2, (T : Int)), (0, 1)]) rfl ?_
              refine sp_endPartD_1 hT hn D26 (fun M42 D42 f42 => ?_)
              have H42 := ((H16).tr ((F26).mono VJ.e)).tr (f42.mono VE2.e)
              refine wp_iinc (loc' := [(2, 23), (2, (T : Int)), (0, 2)]) dX2_readText_65 rfl (by omega) rfl ?_
              refine wp_goto (tgt := 33) dX2_readText_68 (by decide) ?_
              refine wp_iload_n dX2_readText_33 rfl rfl ?_
              refine wp_iconst dX2_readText_34 (by decide) ?_
              refine wp_icmp_ge (tgt := 71) dX2_readText_35 (by decide) (fun h => absurd h (by decide)) (fun _ => ?_)
              refine wp_aload_n dX2_readText_38 rfl rfl ?_
              refine wp_sipush dX2_readText_39 (by decide) (by decide) ?_
              refine wp_iload_n dX2_readText_42 rfl rfl ?_
              refine wp_iadd dX2_readText_43 (by omega) ?_
              refine wp_callV0 (d' := d - 1) cv_RX2_54 23 rfl [(0, 258)] [] rfl rfl (Or.inl ⟨_, _, rfl, by decide, rfl, by omega, by omega⟩) (by omega) (Nat.le_of_ble_eq_true rfl) dX2_readText_44 rfl (Nat.le_of_ble_eq_true rfl) (by omega) (loc1 := [(2, 23), (0, 258)]) rfl ?_
              refine sp_wantD hT hn (by omega) D42 (by decide) (fun M43 D43 f43 => ?_)
              have F43 := ((Fr.rf : Fr (VJ T) M42 M42)).tr f43
              refine wp_aload_n dX2_readText_47 rfl rfl ?_
              refine wp_callV0 (d' := d - 1) cv_RX2_58 23 rfl [] [] rfl rfl (Or.inl ⟨_, _, rfl, by decide, rfl, by omega, by omega⟩) (by omega) (Nat.le_of_ble_eq_true rfl) dX2_readText_48 rfl (Nat.le_of_ble_eq_true rfl) (by omega) (loc1 := [(2, 23), (9, 0)]) rfl ?_
              refine ((ctd_Or hT hn).up (by omega : 18 ≤ 60)) _ _ _ _ _ (by omega) D43 (fun M44 f44 D44 => ?_)
              have F44 := (F43).tr f44
              refine wp_aload_n dX2_readText_51 rfl rfl ?_
              refine wp_bipush dX2_readText_52 (by decide) (by decide) ?_
              refine wp_callV0 (d' := d - 1) cv_RX2_54 23 rfl [(0, 59)] [] rfl rfl (Or.inl ⟨_, _, rfl, by decide, rfl, by omega, by omega⟩) (by omega) (Nat.le_of_ble_eq_true rfl) dX2_readText_54 rfl (Nat.le_of_ble_eq_true rfl) (by omega) (loc1 := [(2, 23), (0, 59)]) rfl ?_
              refine sp_wantD hT hn (by omega) D44 (by decide) (fun M45 D45 f45 => ?_)
              have F45 := (F44).tr f45
              refine wp_aload_n dX2_readText_57 rfl rfl ?_
              refine wp_get 23 rfl fl_RX2_33 rfl ⟨by omega, by omega⟩ dX2_readText_58 rfl (v := (T : Int)) (D45.2.1) ?_
              refine wp_iload_n dX2_readText_61 rfl rfl ?_
              refine wp_callV0 (d' := d - 1) cv_RX2_61 T rfl [(0, 2)] [] rfl rfl (Or.inl ⟨_, _, hT.k0, by decide, rfl, by omega, by omega⟩) (by omega) (Nat.le_of_ble_eq_true rfl) dX2_readText_62 rfl (Nat.le_of_ble_eq_true rfl) (by omega) (loc1 := [(2, (T : Int)), (0, 2)]) rfl ?_
              refine sp_endPartD_2 hT hn D45 (fun M46 D46 f46 => ?_)
              have H46 := ((H42).tr ((F45).mono VJ.e)).tr (f46.mono VE2.e)
              refine wp_iinc (loc' := [(2, 23), (2, (T : Int)), (0, 3)]) dX2_readText_65 rfl (by omega) rfl ?_
              refine wp_goto (tgt := 33) dX2_readText_68 (by decide) ?_
              refine wp_iload_n dX2_readText_33 rfl rfl ?_
              refine wp_iconst dX2_readText_34 (by decide) ?_
              refine wp_icmp_ge (tgt := 71) dX2_readText_35 (by decide) (fun _ => ?_) (fun h => absurd h (by decide))
              refine wp_aload_n dX2_readText_71 rfl rfl ?_
              refine wp_iconst dX2_readText_72 (by decide) ?_
              refine wp_callV0 (d' := d - 1) cv_RX2_54 23 rfl [(0, 0)] [] rfl rfl (Or.inl ⟨_, _, rfl, by decide, rfl, by omega, by omega⟩) (by omega) (Nat.le_of_ble_eq_true rfl) dX2_readText_73 rfl (Nat.le_of_ble_eq_true rfl) (by omega) (loc1 := [(2, 23), (0, 0)]) rfl ?_
              refine sp_wantD hT hn (by omega) D46 (by decide) (fun M47 D47 f47 => ?_)
              have F47 := ((Fr.rf : Fr (VJ T) M46 M46)).tr f47
              refine wp_aload_n dX2_readText_76 rfl rfl ?_
              refine wp_iconst dX2_readText_77 (by decide) ?_
              refine wp_puti 23 rfl fl_RX2_15 rfl ⟨by omega, by omega⟩ dX2_readText_78 rfl rfl ?_
              refine wp_aload_n dX2_readText_81 rfl rfl ?_
              refine wp_get 23 rfl fl_RX2_48 rfl ⟨by omega, by omega⟩ dX2_readText_82 rfl (v := (((lxA f z y18) : Nat) : Int)) (D47.2.2.2.2) ?_
              refine wp_iret rfl dX2_readText_85 ?_
              have u0 : prtP f z 256 0 = .inr (lxN f z y3, c3, v3) := by unfold prtP; rw [if_pos t2, r3]; exact if_pos t15
              have u1 : prtP f z 257 (lxN f z y3) = .inl (lxA f z y18) := by unfold prtP; rw [if_pos t17, r18]; exact if_neg t26
              have FF : Fr (VE T) M (mu M47 23 1 0) := ((H46).tr ((F47).mono VJ.e)).put (Or.inl ⟨rfl, by omega⟩)
              have ee : txtP f z = .inl (lxA f z y18) := by unfold txtP; rw [u0]; dsimp only; rw [u1]
              exact kf _ _ ee FF rfl
        · have F17 := ((Fr.rf : Fr (VJ T) M16 M16)).tr f17
          refine wp_aload_n dX2_readText_47 rfl rfl ?_
          refine wp_callV0 (d' := d - 1) cv_RX2_58 23 rfl [] [] rfl rfl (Or.inl ⟨_, _, rfl, by decide, rfl, by omega, by omega⟩) (by omega) (Nat.le_of_ble_eq_true rfl) dX2_readText_48 rfl (Nat.le_of_ble_eq_true rfl) (by omega) (loc1 := [(2, 23), (9, 0)]) rfl ?_
          refine ((ctd_Or hT hn).up (by omega : 18 ≤ 60)) _ _ _ _ _ (by omega) D17 (fun M48 f48 D48 => ?_)
          have F48 := (F17).tr f48
          refine wp_aload_n dX2_readText_51 rfl rfl ?_
          refine wp_bipush dX2_readText_52 (by decide) (by decide) ?_
          refine wp_callV0 (d' := d - 1) cv_RX2_54 23 rfl [(0, 59)] [] rfl rfl (Or.inl ⟨_, _, rfl, by decide, rfl, by omega, by omega⟩) (by omega) (Nat.le_of_ble_eq_true rfl) dX2_readText_54 rfl (Nat.le_of_ble_eq_true rfl) (by omega) (loc1 := [(2, 23), (0, 59)]) rfl ?_
          refine sp_wantD hT hn (by omega) D48 (by decide) (fun M49 D49 f49 => ?_)
          have F49 := (F48).tr f49
          refine wp_aload_n dX2_readText_57 rfl rfl ?_
          refine wp_get 23 rfl fl_RX2_33 rfl ⟨by omega, by omega⟩ dX2_readText_58 rfl (v := (T : Int)) (D49.2.1) ?_
          refine wp_iload_n dX2_readText_61 rfl rfl ?_
          refine wp_callV0 (d' := d - 1) cv_RX2_61 T rfl [(0, 1)] [] rfl rfl (Or.inl ⟨_, _, hT.k0, by decide, rfl, by omega, by omega⟩) (by omega) (Nat.le_of_ble_eq_true rfl) dX2_readText_62 rfl (Nat.le_of_ble_eq_true rfl) (by omega) (loc1 := [(2, (T : Int)), (0, 1)]) rfl ?_
          refine sp_endPartD_1 hT hn D49 (fun M50 D50 f50 => ?_)
          have H50 := ((H16).tr ((F49).mono VJ.e)).tr (f50.mono VE2.e)
          refine wp_iinc (loc' := [(2, 23), (2, (T : Int)), (0, 2)]) dX2_readText_65 rfl (by omega) rfl ?_
          refine wp_goto (tgt := 33) dX2_readText_68 (by decide) ?_
          refine wp_iload_n dX2_readText_33 rfl rfl ?_
          refine wp_iconst dX2_readText_34 (by decide) ?_
          refine wp_icmp_ge (tgt := 71) dX2_readText_35 (by decide) (fun h => absurd h (by decide)) (fun _ => ?_)
          refine wp_aload_n dX2_readText_38 rfl rfl ?_
          refine wp_sipush dX2_readText_39 (by decide) (by decide) ?_
          refine wp_iload_n dX2_readText_42 rfl rfl ?_
          refine wp_iadd dX2_readText_43 (by omega) ?_
          refine wp_callV0 (d' := d - 1) cv_RX2_54 23 rfl [(0, 258)] [] rfl rfl (Or.inl ⟨_, _, rfl, by decide, rfl, by omega, by omega⟩) (by omega) (Nat.le_of_ble_eq_true rfl) dX2_readText_44 rfl (Nat.le_of_ble_eq_true rfl) (by omega) (loc1 := [(2, 23), (0, 258)]) rfl ?_
          refine sp_wantD hT hn (by omega) D50 (by decide) (fun M51 D51 f51 => ?_)
          have F51 := ((Fr.rf : Fr (VJ T) M50 M50)).tr f51
          refine wp_aload_n dX2_readText_47 rfl rfl ?_
          refine wp_callV0 (d' := d - 1) cv_RX2_58 23 rfl [] [] rfl rfl (Or.inl ⟨_, _, rfl, by decide, rfl, by omega, by omega⟩) (by omega) (Nat.le_of_ble_eq_true rfl) dX2_readText_48 rfl (Nat.le_of_ble_eq_true rfl) (by omega) (loc1 := [(2, 23), (9, 0)]) rfl ?_
          refine ((ctd_Or hT hn).up (by omega : 18 ≤ 60)) _ _ _ _ _ (by omega) D51 (fun M52 f52 D52 => ?_)
          have F52 := (F51).tr f52
          refine wp_aload_n dX2_readText_51 rfl rfl ?_
          refine wp_bipush dX2_readText_52 (by decide) (by decide) ?_
          refine wp_callV0 (d' := d - 1) cv_RX2_54 23 rfl [(0, 59)] [] rfl rfl (Or.inl ⟨_, _, rfl, by decide, rfl, by omega, by omega⟩) (by omega) (Nat.le_of_ble_eq_true rfl) dX2_readText_54 rfl (Nat.le_of_ble_eq_true rfl) (by omega) (loc1 := [(2, 23), (0, 59)]) rfl ?_
          refine sp_wantD hT hn (by omega) D52 (by decide) (fun M53 D53 f53 => ?_)
          have F53 := (F52).tr f53
          refine wp_aload_n dX2_readText_57 rfl rfl ?_
          refine wp_get 23 rfl fl_RX2_33 rfl ⟨by omega, by omega⟩ dX2_readText_58 rfl (v := (T : Int)) (D53.2.1) ?_
          refine wp_iload_n dX2_readText_61 rfl rfl ?_
          refine wp_callV0 (d' := d - 1) cv_RX2_61 T rfl [(0, 2)] [] rfl rfl (Or.inl ⟨_, _, hT.k0, by decide, rfl, by omega, by omega⟩) (by omega) (Nat.le_of_ble_eq_true rfl) dX2_readText_62 rfl (Nat.le_of_ble_eq_true rfl) (by omega) (loc1 := [(2, (T : Int)), (0, 2)]) rfl ?_
          refine sp_endPartD_2 hT hn D53 (fun M54 D54 f54 => ?_)
          have H54 := ((H50).tr ((F53).mono VJ.e)).tr (f54.mono VE2.e)
          refine wp_iinc (loc' := [(2, 23), (2, (T : Int)), (0, 3)]) dX2_readText_65 rfl (by omega) rfl ?_
          refine wp_goto (tgt := 33) dX2_readText_68 (by decide) ?_
          refine wp_iload_n dX2_readText_33 rfl rfl ?_
          refine wp_iconst dX2_readText_34 (by decide) ?_
          refine wp_icmp_ge (tgt := 71) dX2_readText_35 (by decide) (fun _ => ?_) (fun h => absurd h (by decide))
          refine wp_aload_n dX2_readText_71 rfl rfl ?_
          refine wp_iconst dX2_readText_72 (by decide) ?_
          refine wp_callV0 (d' := d - 1) cv_RX2_54 23 rfl [(0, 0)] [] rfl rfl (Or.inl ⟨_, _, rfl, by decide, rfl, by omega, by omega⟩) (by omega) (Nat.le_of_ble_eq_true rfl) dX2_readText_73 rfl (Nat.le_of_ble_eq_true rfl) (by omega) (loc1 := [(2, 23), (0, 0)]) rfl ?_
          refine sp_wantD hT hn (by omega) D54 (by decide) (fun M55 D55 f55 => ?_)
          have F55 := ((Fr.rf : Fr (VJ T) M54 M54)).tr f55
          refine wp_aload_n dX2_readText_76 rfl rfl ?_
          refine wp_iconst dX2_readText_77 (by decide) ?_
          refine wp_puti 23 rfl fl_RX2_15 rfl ⟨by omega, by omega⟩ dX2_readText_78 rfl rfl ?_
          refine wp_aload_n dX2_readText_81 rfl rfl ?_
          refine wp_get 23 rfl fl_RX2_48 rfl ⟨by omega, by omega⟩ dX2_readText_82 rfl (v := (((lxA f z (lxN f z y3)) : Nat) : Int)) (D55.2.2.2.2) ?_
          refine wp_iret rfl dX2_readText_85 ?_
          have u0 : prtP f z 256 0 = .inr (lxN f z y3, c3, v3) := by unfold prtP; rw [if_pos t2, r3]; exact if_pos t15
          have u1 : prtP f z 257 (lxN f z y3) = .inl (lxA f z (lxN f z y3)) := if_neg t17
          have FF : Fr (VE T) M (mu M55 23 1 0) := ((H54).tr ((F55).mono VJ.e)).put (Or.inl ⟨rfl, by omega⟩)
          have ee : txtP f z = .inl (lxA f z (lxN f z y3)) := by unfold txtP; rw [u0]; dsimp only; rw [u1]
          exact kf _ _ ee FF rfl
      · have F15 := (F3).tr f15
        refine wp_aload_n dX2_readText_57 rfl rfl ?_
        refine wp_get 23 rfl fl_RX2_33 rfl ⟨by omega, by omega⟩ dX2_readText_58 rfl (v := (T : Int)) (D15.2.1) ?_
        refine wp_iload_n dX2_readText_61 rfl rfl ?_
        refine wp_callV0 (d' := d - 1) cv_RX2_61 T rfl [(0, 0)] [] rfl rfl (Or.inl ⟨_, _, hT.k0, by decide, rfl, by omega, by omega⟩) (by omega) (Nat.le_of_ble_eq_true rfl) dX2_readText_62 rfl (Nat.le_of_ble_eq_true rfl) (by omega) (loc1 := [(2, (T : Int)), (0, 0)]) rfl ?_
        refine sp_endPartD_0 hT hn D15 (fun M56 D56 f56 => ?_)
        have H56 := ((H1).tr ((F15).mono VJ.e)).tr (f56.mono VE2.e)
        refine wp_iinc (loc' := [(2, 23), (2, (T : Int)), (0, 1)]) dX2_readText_65 rfl (by omega) rfl ?_
        refine wp_goto (tgt := 33) dX2_readText_68 (by decide) ?_
        refine wp_iload_n dX2_readText_33 rfl rfl ?_
        refine wp_iconst dX2_readText_34 (by decide) ?_
        refine wp_icmp_ge (tgt := 71) dX2_readText_35 (by decide) (fun h => absurd h (by decide)) (fun _ => ?_)
        refine wp_aload_n dX2_readText_38 rfl rfl ?_
        refine wp_sipush dX2_readText_39 (by decide) (by decide) ?_
        refine wp_iload_n dX2_readText_42 rfl rfl ?_
        refine wp_iadd dX2_readText_43 (by omega) ?_
        refine wp_callV0 (d' := d - 1) cv_RX2_54 23 rfl [(0, 257)] [] rfl rfl (Or.inl ⟨_, _, rfl, by decide, rfl, by omega, by omega⟩) (by omega) (Nat.le_of_ble_eq_true rfl) dX2_readText_44 rfl (Nat.le_of_ble_eq_true rfl) (by omega) (loc1 := [(2, 23), (0, 257)]) rfl ?_
        refine sp_wantD hT hn (by omega) D56 (by decide) (fun M57 D57 f57 => ?_)
        have F57 := ((Fr.rf : Fr (VJ T) M56 M56)).tr f57
        refine wp_aload_n dX2_readText_47 rfl rfl ?_
        refine wp_callV0 (d' := d - 1) cv_RX2_58 23 rfl [] [] rfl rfl (Or.inl ⟨_, _, rfl, by decide, rfl, by omega, by omega⟩) (by omega) (Nat.le_of_ble_eq_true rfl) dX2_readText_48 rfl (Nat.le_of_ble_eq_true rfl) (by omega) (loc1 := [(2, 23), (9, 0)]) rfl ?_
        refine ((ctd_Or hT hn).up (by omega : 18 ≤ 60)) _ _ _ _ _ (by omega) D57 (fun M58 f58 D58 => ?_)
        have F58 := (F57).tr f58
        refine wp_aload_n dX2_readText_51 rfl rfl ?_
        refine wp_bipush dX2_readText_52 (by decide) (by decide) ?_
        refine wp_callV0 (d' := d - 1) cv_RX2_54 23 rfl [(0, 59)] [] rfl rfl (Or.inl ⟨_, _, rfl, by decide, rfl, by omega, by omega⟩) (by omega) (Nat.le_of_ble_eq_true rfl) dX2_readText_54 rfl (Nat.le_of_ble_eq_true rfl) (by omega) (loc1 := [(2, 23), (0, 59)]) rfl ?_
        refine sp_wantD hT hn (by omega) D58 (by decide) (fun M59 D59 f59 => ?_)
        have F59 := (F58).tr f59
        refine wp_aload_n dX2_readText_57 rfl rfl ?_
        refine wp_get 23 rfl fl_RX2_33 rfl ⟨by omega, by omega⟩ dX2_readText_58 rfl (v := (T : Int)) (D59.2.1) ?_
        refine wp_iload_n dX2_readText_61 rfl rfl ?_
        refine wp_callV0 (d' := d - 1) cv_RX2_61 T rfl [(0, 1)] [] rfl rfl (Or.inl ⟨_, _, hT.k0, by decide, rfl, by omega, by omega⟩) (by omega) (Nat.le_of_ble_eq_true rfl) dX2_readText_62 rfl (Nat.le_of_ble_eq_true rfl) (by omega) (loc1 := [(2, (T : Int)), (0, 1)]) rfl ?_
        refine sp_endPartD_1 hT hn D59 (fun M60 D60 f60 => ?_)
        have H60 := ((H56).tr ((F59).mono VJ.e)).tr (f60.mono VE2.e)
        refine wp_iinc (loc' := [(2, 23), (2, (T : Int)), (0, 2)]) dX2_readText_65 rfl (by omega) rfl ?_
        refine wp_goto (tgt := 33) dX2_readText_68 (by decide) ?_
        refine wp_iload_n dX2_readText_33 rfl rfl ?_
        refine wp_iconst dX2_readText_34 (by decide) ?_
        refine wp_icmp_ge (tgt := 71) dX2_readText_35 (by decide) (fun h => absurd h (by decide)) (fun _ => ?_)
        refine wp_aload_n dX2_readText_38 rfl rfl ?_
        refine wp_sipush dX2_readText_39 (by decide) (by decide) ?_
        refine wp_iload_n dX2_readText_42 rfl rfl ?_
        refine wp_iadd dX2_readText_43 (by omega) ?_
        refine wp_callV0 (d' := d - 1) cv_RX2_54 23 rfl [(0, 258)] [] rfl rfl (Or.inl ⟨_, _, rfl, by decide, rfl, by omega, by omega⟩) (by omega) (Nat.le_of_ble_eq_true rfl) dX2_readText_44 rfl (Nat.le_of_ble_eq_true rfl) (by omega) (loc1 := [(2, 23), (0, 258)]) rfl ?_
        refine sp_wantD hT hn (by omega) D60 (by decide) (fun M61 D61 f61 => ?_)
        have F61 := ((Fr.rf : Fr (VJ T) M60 M60)).tr f61
        refine wp_aload_n dX2_readText_47 rfl rfl ?_
        refine wp_callV0 (d' := d - 1) cv_RX2_58 23 rfl [] [] rfl rfl (Or.inl ⟨_, _, rfl, by decide, rfl, by omega, by omega⟩) (by omega) (Nat.le_of_ble_eq_true rfl) dX2_readText_48 rfl (Nat.le_of_ble_eq_true rfl) (by omega) (loc1 := [(2, 23), (9, 0)]) rfl ?_
        refine ((ctd_Or hT hn).up (by omega : 18 ≤ 60)) _ _ _ _ _ (by omega) D61 (fun M62 f62 D62 => ?_)
        have F62 := (F61).tr f62
        refine wp_aload_n dX2_readText_51 rfl rfl ?_
        refine wp_bipush dX2_readText_52 (by decide) (by decide) ?_
        refine wp_callV0 (d' := d - 1) cv_RX2_54 23 rfl [(0, 59)] [] rfl rfl (Or.inl ⟨_, _, rfl, by decide, rfl, by omega, by omega⟩) (by omega) (Nat.le_of_ble_eq_true rfl) dX2_readText_54 rfl (Nat.le_of_ble_eq_true rfl) (by omega) (loc1 := [(2, 23), (0, 59)]) rfl ?_
        refine sp_wantD hT hn (by omega) D62 (by decide) (fun M63 D63 f63 => ?_)
        have F63 := (F62).tr f63
        refine wp_aload_n dX2_readText_57 rfl rfl ?_
        refine wp_get 23 rfl fl_RX2_33 rfl ⟨by omega, by omega⟩ dX2_readText_58 rfl (v := (T : Int)) (D63.2.1) ?_
        refine wp_iload_n dX2_readText_61 rfl rfl ?_
        refine wp_callV0 (d' := d - 1) cv_RX2_61 T rfl [(0, 2)] [] rfl rfl (Or.inl ⟨_, _, hT.k0, by decide, rfl, by omega, by omega⟩) (by omega) (Nat.le_of_ble_eq_true rfl) dX2_readText_62 rfl (Nat.le_of_ble_eq_true rfl) (by omega) (loc1 := [(2, (T : Int)), (0, 2)]) rfl ?_
        refine sp_endPartD_2 hT hn D63 (fun M64 D64 f64 => ?_)
        have H64 := ((H60).tr ((F63).mono VJ.e)).tr (f64.mono VE2.e)
        refine wp_iinc (loc' := [(2, 23), (2, (T : Int)), (0, 3)]) dX2_readText_65 rfl (by omega) rfl ?_
        refine wp_goto (tgt := 33) dX2_readText_68 (by decide) ?_
        refine wp_iload_n dX2_readText_33 rfl rfl ?_
        refine wp_iconst dX2_readText_34 (by decide) ?_
        refine wp_icmp_ge (tgt := 71) dX2_readText_35 (by decide) (fun _ => ?_) (fun h => absurd h (by decide))
        refine wp_aload_n dX2_readText_71 rfl rfl ?_
        refine wp_iconst dX2_readText_72 (by decide) ?_
        refine wp_callV0 (d' := d - 1) cv_RX2_54 23 rfl [(0, 0)] [] rfl rfl (Or.inl ⟨_, _, rfl, by decide, rfl, by omega, by omega⟩) (by omega) (Nat.le_of_ble_eq_true rfl) dX2_readText_73 rfl (Nat.le_of_ble_eq_true rfl) (by omega) (loc1 := [(2, 23), (0, 0)]) rfl ?_
        refine sp_wantD hT hn (by omega) D64 (by decide) (fun M65 D65 f65 => ?_)
        have F65 := ((Fr.rf : Fr (VJ T) M64 M64)).tr f65
        refine wp_aload_n dX2_readText_76 rfl rfl ?_
        refine wp_iconst dX2_readText_77 (by decide) ?_
        refine wp_puti 23 rfl fl_RX2_15 rfl ⟨by omega, by omega⟩ dX2_readText_78 rfl rfl ?_
        refine wp_aload_n dX2_readText_81 rfl rfl ?_
        refine wp_get 23 rfl fl_RX2_48 rfl ⟨by omega, by omega⟩ dX2_readText_82 rfl (v := (((lxA f z y3) : Nat) : Int)) (D65.2.2.2.2) ?_
        refine wp_iret rfl dX2_readText_85 ?_
        have u0 : prtP f z 256 0 = .inl (lxA f z y3) := by unfold prtP; rw [if_pos t2, r3]; exact if_neg t15
        have FF : Fr (VE T) M (mu M65 23 1 0) := ((H64).tr ((F65).mono VJ.e)).put (Or.inl ⟨rfl, by omega⟩)
        have ee : txtP f z = .inl (lxA f z y3) := by unfold txtP; rw [u0]
        exact kf _ _ ee FF rfl
  · have F2 := ((Fr.rf : Fr (VJ T) M1 M1)).tr f2
    refine wp_aload_n dX2_readText_47 rfl rfl ?_
    refine wp_callV0 (d' := d - 1) cv_RX2_58 23 rfl [] [] rfl rfl (Or.inl ⟨_, _, rfl, by decide, rfl, by omega, by omega⟩) (by omega) (Nat.le_of_ble_eq_true rfl) dX2_readText_48 rfl (Nat.le_of_ble_eq_true rfl) (by omega) (loc1 := [(2, 23), (9, 0)]) rfl ?_
    refine ((ctd_Or hT hn).up (by omega : 18 ≤ 60)) _ _ _ _ _ (by omega) D2 (fun M66 f66 D66 => ?_)
    have F66 := (F2).tr f66
    refine wp_aload_n dX2_readText_51 rfl rfl ?_
    refine wp_bipush dX2_readText_52 (by decide) (by decide) ?_
    refine wp_callV0 (d' := d - 1) cv_RX2_54 23 rfl [(0, 59)] [] rfl rfl (Or.inl ⟨_, _, rfl, by decide, rfl, by omega, by omega⟩) (by omega) (Nat.le_of_ble_eq_true rfl) dX2_readText_54 rfl (Nat.le_of_ble_eq_true rfl) (by omega) (loc1 := [(2, 23), (0, 59)]) rfl ?_
    refine sp_wantD hT hn (by omega) D66 (by decide) (fun M67 D67 f67 => ?_)
    have F67 := (F66).tr f67
    refine wp_aload_n dX2_readText_57 rfl rfl ?_
    refine wp_get 23 rfl fl_RX2_33 rfl ⟨by omega, by omega⟩ dX2_readText_58 rfl (v := (T : Int)) (D67.2.1) ?_
    refine wp_iload_n dX2_readText_61 rfl rfl ?_
    refine wp_callV0 (d' := d - 1) cv_RX2_61 T rfl [(0, 0)] [] rfl rfl (Or.inl ⟨_, _, hT.k0, by decide, rfl, by omega, by omega⟩) (by omega) (Nat.le_of_ble_eq_true rfl) dX2_readText_62 rfl (Nat.le_of_ble_eq_true rfl) (by omega) (loc1 := [(2, (T : Int)), (0, 0)]) rfl ?_
    refine sp_endPartD_0 hT hn D67 (fun M68 D68 f68 => ?_)
    have H68 := ((H1).tr ((F67).mono VJ.e)).tr (f68.mono VE2.e)
    refine wp_iinc (loc' := [(2, 23), (2, (T : Int)), (0, 1)]) dX2_readText_65 rfl (by omega) rfl ?_
    refine wp_goto (tgt := 33) dX2_readText_68 (by decide) ?_
    refine wp_iload_n dX2_readText_33 rfl rfl ?_
    refine wp_iconst dX2_readText_34 (by decide) ?_
    refine wp_icmp_ge (tgt := 71) dX2_readText_35 (by decide) (fun h => absurd h (by decide)) (fun _ => ?_)
    refine wp_aload_n dX2_readText_38 rfl rfl ?_
    refine wp_sipush dX2_readText_39 (by decide) (by decide) ?_
    refine wp_iload_n dX2_readText_42 rfl rfl ?_
    refine wp_iadd dX2_readText_43 (by omega) ?_
    refine wp_callV0 (d' := d - 1) cv_RX2_54 23 rfl [(0, 257)] [] rfl rfl (Or.inl ⟨_, _, rfl, by decide, rfl, by omega, by omega⟩) (by omega) (Nat.le_of_ble_eq_true rfl) dX2_readText_44 rfl (Nat.le_of_ble_eq_true rfl) (by omega) (loc1 := [(2, 23), (0, 257)]) rfl ?_
    refine sp_wantD hT hn (by omega) D68 (by decide) (fun M69 D69 f69 => ?_)
    have F69 := ((Fr.rf : Fr (VJ T) M68 M68)).tr f69
    refine wp_aload_n dX2_readText_47 rfl rfl ?_
    refine wp_callV0 (d' := d - 1) cv_RX2_58 23 rfl [] [] rfl rfl (Or.inl ⟨_, _, rfl, by decide, rfl, by omega, by omega⟩) (by omega) (Nat.le_of_ble_eq_true rfl) dX2_readText_48 rfl (Nat.le_of_ble_eq_true rfl) (by omega) (loc1 := [(2, 23), (9, 0)]) rfl ?_
    refine ((ctd_Or hT hn).up (by omega : 18 ≤ 60)) _ _ _ _ _ (by omega) D69 (fun M70 f70 D70 => ?_)
    have F70 := (F69).tr f70
    refine wp_aload_n dX2_readText_51 rfl rfl ?_
    refine wp_bipush dX2_readText_52 (by decide) (by decide) ?_
    refine wp_callV0 (d' := d - 1) cv_RX2_54 23 rfl [(0, 59)] [] rfl rfl (Or.inl ⟨_, _, rfl, by decide, rfl, by omega, by omega⟩) (by omega) (Nat.le_of_ble_eq_true rfl) dX2_readText_54 rfl (Nat.le_of_ble_eq_true rfl) (by omega) (loc1 := [(2, 23), (0, 59)]) rfl ?_
    refine sp_wantD hT hn (by omega) D70 (by decide) (fun M71 D71 f71 => ?_)
    have F71 := (F70).tr f71
    refine wp_aload_n dX2_readText_57 rfl rfl ?_
    refine wp_get 23 rfl fl_RX2_33 rfl ⟨by omega, by omega⟩ dX2_readText_58 rfl (v := (T : Int)) (D71.2.1) ?_
    refine wp_iload_n dX2_readText_61 rfl rfl ?_
    refine wp_callV0 (d' := d - 1) cv_RX2_61 T rfl [(0, 1)] [] rfl rfl (Or.inl ⟨_, _, hT.k0, by decide, rfl, by omega, by omega⟩) (by omega) (Nat.le_of_ble_eq_true rfl) dX2_readText_62 rfl (Nat.le_of_ble_eq_true rfl) (by omega) (loc1 := [(2, (T : Int)), (0, 1)]) rfl ?_
    refine sp_endPartD_1 hT hn D71 (fun M72 D72 f72 => ?_)
    have H72 := ((H68).tr ((F71).mono VJ.e)).tr (f72.mono VE2.e)
    refine wp_iinc (loc' := [(2, 23), (2, (T : Int)), (0, 2)]) dX2_readText_65 rfl (by omega) rfl ?_
    refine wp_goto (tgt := 33) dX2_readText_68 (by decide) ?_
    refine wp_iload_n dX2_readText_33 rfl rfl ?_
    refine wp_iconst dX2_readText_34 (by decide) ?_
    refine wp_icmp_ge (tgt := 71) dX2_readText_35 (by decide) (fun h => absurd h (by decide)) (fun _ => ?_)
    refine wp_aload_n dX2_readText_38 rfl rfl ?_
    refine wp_sipush dX2_readText_39 (by decide) (by decide) ?_
    refine wp_iload_n dX2_readText_42 rfl rfl ?_
    refine wp_iadd dX2_readText_43 (by omega) ?_
    refine wp_callV0 (d' := d - 1) cv_RX2_54 23 rfl [(0, 258)] [] rfl rfl (Or.inl ⟨_, _, rfl, by decide, rfl, by omega, by omega⟩) (by omega) (Nat.le_of_ble_eq_true rfl) dX2_readText_44 rfl (Nat.le_of_ble_eq_true rfl) (by omega) (loc1 := [(2, 23), (0, 258)]) rfl ?_
    refine sp_wantD hT hn (by omega) D72 (by decide) (fun M73 D73 f73 => ?_)
    have F73 := ((Fr.rf : Fr (VJ T) M72 M72)).tr f73
    refine wp_aload_n dX2_readText_47 rfl rfl ?_
    refine wp_callV0 (d' := d - 1) cv_RX2_58 23 rfl [] [] rfl rfl (Or.inl ⟨_, _, rfl, by decide, rfl, by omega, by omega⟩) (by omega) (Nat.le_of_ble_eq_true rfl) dX2_readText_48 rfl (Nat.le_of_ble_eq_true rfl) (by omega) (loc1 := [(2, 23), (9, 0)]) rfl ?_
    refine ((ctd_Or hT hn).up (by omega : 18 ≤ 60)) _ _ _ _ _ (by omega) D73 (fun M74 f74 D74 => ?_)
    have F74 := (F73).tr f74
    refine wp_aload_n dX2_readText_51 rfl rfl ?_
    refine wp_bipush dX2_readText_52 (by decide) (by decide) ?_
    refine wp_callV0 (d' := d - 1) cv_RX2_54 23 rfl [(0, 59)] [] rfl rfl (Or.inl ⟨_, _, rfl, by decide, rfl, by omega, by omega⟩) (by omega) (Nat.le_of_ble_eq_true rfl) dX2_readText_54 rfl (Nat.le_of_ble_eq_true rfl) (by omega) (loc1 := [(2, 23), (0, 59)]) rfl ?_
    refine sp_wantD hT hn (by omega) D74 (by decide) (fun M75 D75 f75 => ?_)
    have F75 := (F74).tr f75
    refine wp_aload_n dX2_readText_57 rfl rfl ?_
    refine wp_get 23 rfl fl_RX2_33 rfl ⟨by omega, by omega⟩ dX2_readText_58 rfl (v := (T : Int)) (D75.2.1) ?_
    refine wp_iload_n dX2_readText_61 rfl rfl ?_
    refine wp_callV0 (d' := d - 1) cv_RX2_61 T rfl [(0, 2)] [] rfl rfl (Or.inl ⟨_, _, hT.k0, by decide, rfl, by omega, by omega⟩) (by omega) (Nat.le_of_ble_eq_true rfl) dX2_readText_62 rfl (Nat.le_of_ble_eq_true rfl) (by omega) (loc1 := [(2, (T : Int)), (0, 2)]) rfl ?_
    refine sp_endPartD_2 hT hn D75 (fun M76 D76 f76 => ?_)
    have H76 := ((H72).tr ((F75).mono VJ.e)).tr (f76.mono VE2.e)
    refine wp_iinc (loc' := [(2, 23), (2, (T : Int)), (0, 3)]) dX2_readText_65 rfl (by omega) rfl ?_
    refine wp_goto (tgt := 33) dX2_readText_68 (by decide) ?_
    refine wp_iload_n dX2_readText_33 rfl rfl ?_
    refine wp_iconst dX2_readText_34 (by decide) ?_
    refine wp_icmp_ge (tgt := 71) dX2_readText_35 (by decide) (fun _ => ?_) (fun h => absurd h (by decide))
    refine wp_aload_n dX2_readText_71 rfl rfl ?_
    refine wp_iconst dX2_readText_72 (by decide) ?_
    refine wp_callV0 (d' := d - 1) cv_RX2_54 23 rfl [(0, 0)] [] rfl rfl (Or.inl ⟨_, _, rfl, by decide, rfl, by omega, by omega⟩) (by omega) (Nat.le_of_ble_eq_true rfl) dX2_readText_73 rfl (Nat.le_of_ble_eq_true rfl) (by omega) (loc1 := [(2, 23), (0, 0)]) rfl ?_
    refine sp_wantD hT hn (by omega) D76 (by decide) (fun M77 D77 f77 => ?_)
    have F77 := ((Fr.rf : Fr (VJ T) M76 M76)).tr f77
    refine wp_aload_n dX2_readText_76 rfl rfl ?_
    refine wp_iconst dX2_readText_77 (by decide) ?_
    refine wp_puti 23 rfl fl_RX2_15 rfl ⟨by omega, by omega⟩ dX2_readText_78 rfl rfl ?_
    refine wp_aload_n dX2_readText_81 rfl rfl ?_
    refine wp_get 23 rfl fl_RX2_48 rfl ⟨by omega, by omega⟩ dX2_readText_82 rfl (v := (((lxA f z 0) : Nat) : Int)) (D77.2.2.2.2) ?_
    refine wp_iret rfl dX2_readText_85 ?_
    have u0 : prtP f z 256 0 = .inl (lxA f z 0) := if_neg t2
    have FF : Fr (VE T) M (mu M77 23 1 0) := ((H76).tr ((F77).mono VJ.e)).put (Or.inl ⟨rfl, by omega⟩)
    have ee : txtP f z = .inl (lxA f z 0) := by unfold txtP; rw [u0]
    exact kf _ _ ee FF rfl
def VEx (T i j : Nat) : Prop := VE T i j ∨ (i = 25 ∧ j = 1)
theorem VE.x {T : Nat} : ∀ i j, VE T i j → VEx T i j := fun i j h => Or.inl h
set_option maxRecDepth 20000 in
set_option maxHeartbeats 4000000 in
theorem cs_text {l : Launch} {g : Gw} {d n : Nat} {M : Mm} {Q : Option Wd → Mm → Prop} (hn : 60 ≤ n) (hd : 65 ≤ d) {f : Nat → Int} {z : Int} (hP : TP M f z) (hB : BT f z) {s : Nat} (hs : M 25 1 = (s : Int)) (h6 : s ≤ 6) (kF : s = 6 → Q (some (0, -4)) M) (kf : s < 6 → ∀ (p : Nat) M', txtP f z = .inl p → Fr (VE (27 + 4 * s)) M M' → M' 23 1 = 0 → Q (some (0, wrap (-100 - (p : Int)))) M') (kt : s < 6 → ∀ q M', txtP f z = .inr q → Fr (VEx (27 + 4 * s)) M M' → M' 23 1 = 0 → M' 25 1 = (s : Int) + 1 → TXC M' (27 + 4 * s) q → Q (some (0, (s : Int))) M') : Wp l g d 0 0 n m_X7_text 0 [] [(2, 1), (9, 0)] M Q := by
  obtain ⟨hR, hf, hz, hz0, hz1⟩ := id hP
  refine wp_aload_n dX7_text_0 rfl rfl ?_
  refine wp_get 1 rfl fl_RX7_32 rfl ⟨by omega, by omega⟩ dX7_text_1 rfl (v := 25) (qr_1_5 (M := M) hR) ?_
  refine wp_callV0 (d' := d - 1) cv_RX7_134 25 rfl [] [] rfl rfl (Or.inl ⟨_, _, rfl, by decide, rfl, by omega, by omega⟩) (by omega) (Nat.le_of_ble_eq_true rfl) dX7_text_4 rfl (Nat.le_of_ble_eq_true rfl) (by omega) (loc1 := [(2, 25)]) rfl ?_
  refine wp_aload_n dX6_isFull_0 rfl rfl ?_
  refine wp_get 25 rfl fl_RX6_16 rfl ⟨by omega, by omega⟩ dX6_isFull_1 rfl (v := (s : Int)) (hs) ?_
  refine wp_bipush dX6_isFull_4 (by decide) (by decide) ?_
  refine wp_icmp_lt (tgt := 13) dX6_isFull_6 (by decide) (fun h6 => ?_) (fun h6 => ?_)
  · obtain ⟨T, hT, hTe, hTs⟩ := txt_atr hR (t := s) (by omega)
    rw [← hTe] at kf kt
    have hb := hT.b
    refine wp_iconst dX6_isFull_13 (by decide) ?_
    refine wp_zret rfl (by omega) dX6_isFull_14 ?_
    refine wp_if_eq (tgt := 13) dX7_text_7 (by decide) (fun _ => ?_) (fun h => absurd h (by decide))
    refine wp_aload_n dX7_text_13 rfl rfl ?_
    refine wp_get 1 rfl fl_RX7_25 rfl ⟨by omega, by omega⟩ dX7_text_14 rfl (v := 23) (qr_1_4 (M := M) hR) ?_
    refine wp_aload_n dX7_text_17 rfl rfl ?_
    refine wp_get 1 rfl fl_RX7_32 rfl ⟨by omega, by omega⟩ dX7_text_18 rfl (v := 25) (qr_1_5 (M := M) hR) ?_
    refine wp_callV0 (d' := d - 1) cv_RX7_66 25 rfl [] [(2, 23)] rfl rfl (Or.inl ⟨_, _, rfl, by decide, rfl, by omega, by omega⟩) (by omega) (Nat.le_of_ble_eq_true rfl) dX7_text_21 rfl (Nat.le_of_ble_eq_true rfl) (by omega) (loc1 := [(2, 25)]) rfl ?_
    refine wp_aload_n dX6_spare_0 rfl rfl ?_
    refine wp_get 25 rfl fl_RX6_11 rfl ⟨by omega, by omega⟩ dX6_spare_1 rfl (v := 26) (qr_25_0 (M := M) hR) ?_
    refine wp_aload_n dX6_spare_4 rfl rfl ?_
    refine wp_get 25 rfl fl_RX6_16 rfl ⟨by omega, by omega⟩ dX6_spare_5 rfl (v := (s : Int)) (hs) ?_
    refine wp_if_lt (tgt := 20) dX6_spare_8 (by decide) (fun h => absurd h (by omega)) (fun _ => ?_)
    refine wp_aload_n dX6_spare_11 rfl rfl ?_
    refine wp_get 25 rfl fl_RX6_16 rfl ⟨by omega, by omega⟩ dX6_spare_12 rfl (v := (s : Int)) (hs) ?_
    refine wp_bipush dX6_spare_15 (by decide) (by decide) ?_
    refine wp_icmp_lt (tgt := 24) dX6_spare_17 (by decide) (fun _ => ?_) (fun h => absurd h (by omega))
    refine wp_aload_n dX6_spare_24 rfl rfl ?_
    refine wp_get 25 rfl fl_RX6_16 rfl ⟨by omega, by omega⟩ dX6_spare_25 rfl (v := (s : Int)) (hs) ?_
    refine wp_aald 26 rfl (t := 2) rfl (by decide) ⟨by omega, by omega⟩ ⟨by omega, by omega⟩ dX6_spare_28 (v := (T : Int)) (hTs) ?_
    refine wp_aret rfl (Or.inl ⟨_, rfl⟩) dX6_spare_29 ?_
    refine wp_callV0 (d' := d - 1) cv_RX7_70 23 rfl [(2, (T : Int))] [] rfl rfl (Or.inl ⟨_, _, rfl, by decide, rfl, by omega, by omega⟩) (by omega) (Nat.le_of_ble_eq_true rfl) dX7_text_24 rfl (Nat.le_of_ble_eq_true rfl) (by omega) (loc1 := [(2, 23), (2, (T : Int)), (9, 0)]) rfl ?_
    refine sp_readText hT hn (by omega) hB hP (fun p M1 ep f1 z1 => ?_) (fun q M1 eq f1 z1 t1 => ?_)
    · have hR1 := VE.sr hT f1 hR
      refine wp_istore_n (loc' := [(2, 1), (0, (p : Int))]) dX7_text_27 rfl (Nat.le_of_ble_eq_true rfl) rfl ?_
      refine wp_iload_n dX7_text_28 rfl rfl ?_
      refine wp_iconst dX7_text_29 (by decide) ?_
      refine wp_icmp_ne (tgt := 43) dX7_text_30 (by decide) (fun _ => ?_) (fun h => absurd h (by omega))
      refine wp_bipush dX7_text_43 (by decide) (by decide) ?_
      refine wp_iload_n dX7_text_45 rfl rfl ?_
      refine wp_isubw dX7_text_46 ?_
      refine wp_iret rfl dX7_text_47 ?_
      exact kf (by omega) p M1 ep f1 z1
    · have hR1 := VE.sr hT f1 hR
      refine wp_istore_n (loc' := [(2, 1), (0, (-1))]) dX7_text_27 rfl (Nat.le_of_ble_eq_true rfl) rfl ?_
      refine wp_iload_n dX7_text_28 rfl rfl ?_
      refine wp_iconst dX7_text_29 (by decide) ?_
      refine wp_icmp_ne (tgt := 43) dX7_text_30 (by decide) (fun h => absurd h (by decide)) (fun _ => ?_)
      refine wp_aload_n dX7_text_33 rfl rfl ?_
      refine wp_get 1 rfl fl_RX7_32 rfl ⟨by omega, by omega⟩ dX7_text_34 rfl (v := 25) (qr_1_5 (M := M1) hR1) ?_
      refine wp_callV0 (d' := d - 1) cv_RX7_74 25 rfl [] [] rfl rfl (Or.inl ⟨_, _, rfl, by decide, rfl, by omega, by omega⟩) (by omega) (Nat.le_of_ble_eq_true rfl) dX7_text_37 rfl (Nat.le_of_ble_eq_true rfl) (by omega) (loc1 := [(2, 25)]) rfl ?_
      refine wp_aload_n dX6_takeSpare_0 rfl rfl ?_
      refine wp_callV0 (d' := d - 2) cv_RX6_20 25 rfl [] [] rfl rfl (Or.inl ⟨_, _, rfl, by decide, rfl, by omega, by omega⟩) (by omega) (Nat.le_of_ble_eq_true rfl) dX6_takeSpare_1 rfl (Nat.le_of_ble_eq_true rfl) (by omega) (loc1 := [(2, 25)]) rfl ?_
      refine wp_aload_n dX6_isFull_0 rfl rfl ?_
      refine wp_get 25 rfl fl_RX6_16 rfl ⟨by omega, by omega⟩ dX6_isFull_1 rfl (v := (s : Int)) (((f1 25 1 (by unfold VE; omega)).trans hs)) ?_
      refine wp_bipush dX6_isFull_4 (by decide) (by decide) ?_
      refine wp_icmp_lt (tgt := 13) dX6_isFull_6 (by decide) (fun _ => ?_) (fun h => absurd h (by omega))
      refine wp_iconst dX6_isFull_13 (by decide) ?_
      refine wp_zret rfl (by omega) dX6_isFull_14 ?_
      refine wp_if_ne (tgt := 17) dX6_takeSpare_4 (by decide) (fun h => absurd h (by decide)) (fun _ => ?_)
      refine wp_aload_n dX6_takeSpare_7 rfl rfl ?_
      refine wp_dup dX6_takeSpare_8 (Or.inr rfl) ?_
      refine wp_get 25 rfl fl_RX6_16 rfl ⟨by omega, by omega⟩ dX6_takeSpare_9 rfl (v := (s : Int)) (((f1 25 1 (by unfold VE; omega)).trans hs)) ?_
      refine wp_iconst dX6_takeSpare_12 (by decide) ?_
      refine wp_iadd dX6_takeSpare_13 (by omega) ?_
      refine wp_puti 25 rfl fl_RX6_16 rfl ⟨by omega, by omega⟩ dX6_takeSpare_14 rfl rfl ?_
      refine wp_aload_n dX6_takeSpare_17 rfl rfl ?_
      refine wp_get 25 rfl fl_RX6_16 rfl ⟨by omega, by omega⟩ dX6_takeSpare_18 rfl (v := ((s : Int) + 1)) (rfl) ?_
      refine wp_iconst dX6_takeSpare_21 (by decide) ?_
      refine wp_isub dX6_takeSpare_22 (by omega) ?_
      refine wp_iret rfl dX6_takeSpare_23 ?_
      refine wp_goto (tgt := 47) dX7_text_40 (by decide) ?_
      refine wp_iret rfl dX7_text_47 ?_
      rw [show ((s : Int) + 1) - 1 = (s : Int) by omega]
      exact kt (by omega) q _ eq ((f1.mono VE.x).put (Or.inr ⟨rfl, rfl⟩)) z1 rfl (t1.sz hT _ 25 (Or.inr rfl))
  · refine wp_iconst dX6_isFull_9 (by decide) ?_
    refine wp_goto (tgt := 14) dX6_isFull_10 (by decide) ?_
    refine wp_zret rfl (by omega) dX6_isFull_14 ?_
    refine wp_if_eq (tgt := 13) dX7_text_7 (by decide) (fun h => absurd h (by decide)) (fun _ => ?_)
    refine wp_bipush dX7_text_10 (by decide) (by decide) ?_
    refine wp_iret rfl dX7_text_12 ?_
    exact kF (by omega)
