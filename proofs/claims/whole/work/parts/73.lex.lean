/-! ===== the class's reader: words, numerals, a token ===== -/
def wmB (k : Nat) (f : Nat → Int) (x y : Nat) : Bool := decide (y = x + lenL.getD k 0 ∧ ∀ i, i < lenL.getD k 0 → f (x + i) = byt k i)
def wdT (f : Nat → Int) (x y : Nat) : Nat → Int
  | 0 => 1
  | k + 1 => if wmB (k + 1) f x y = true then 256 + (k : Int) else wdT f x y k
def VR5 (i j : Nat) : Prop := i = 23 ∧ j = 5
theorem VR5.r : ∀ i j, VR5 i j → VR i j := by
  intro i j h
  unfold VR5 at h
  unfold VR
  omega
set_option maxRecDepth 20000 in
set_option maxHeartbeats 4000000 in
theorem sp_isWord_1 {l : Launch} {g : Gw} {d n : Nat} {M : Mm} {Q : Option Wd → Mm → Prop} (hn : 60 ≤ n) {f : Nat → Int} {z : Int} (hP : TP M f z) (hd : 5 ≤ d) {x y : Nat} (hx : M 23 3 = (x : Int)) (hy : M 23 4 = (y : Int)) (hxy : x ≤ y) (hyz : (y : Int) ≤ z) (kt : wmB 1 f x y = true → Q (some (0, 1)) M) (kf : wmB 1 f x y = false → Q (some (0, 0)) M) : Wp l g d 0 0 n m_X2_isWord 0 [] [(2, 23), (2, 1001), (9, 0)] M Q := by
  obtain ⟨hR, hf, hz, hz0, hz1⟩ := id hP
  refine wp_aload_n dX2_isWord_0 rfl rfl ?_
  refine wp_callV0 (d' := d - 1) cv_RX2_19 1001 rfl [] [] rfl rfl (Or.inr ⟨by decide, by decide, rfl⟩) (by omega) (Nat.le_of_ble_eq_true rfl) dX2_isWord_1 rfl (Nat.le_of_ble_eq_true rfl) (by omega) (loc1 := [(2, 1001)]) rfl ?_
  refine sp_slen_1 (by omega) ?_
  refine wp_aload_n dX2_isWord_4 rfl rfl ?_
  refine wp_get 23 rfl fl_RX2_42 rfl ⟨by omega, by omega⟩ dX2_isWord_5 rfl (v := (y : Int)) (hy) ?_
  refine wp_aload_n dX2_isWord_8 rfl rfl ?_
  refine wp_get 23 rfl fl_RX2_64 rfl ⟨by omega, by omega⟩ dX2_isWord_9 rfl (v := (x : Int)) (hx) ?_
  refine wp_isub dX2_isWord_12 (by omega) ?_
  refine wp_icmp_eq (tgt := 18) dX2_isWord_13 (by decide) (fun h13 => ?_) (fun h13 => ?_)
  · refine wp_iconst dX2_isWord_18 (by decide) ?_
    refine wp_istore_n (loc' := [(2, 23), (2, 1001), (0, 0)]) dX2_isWord_19 rfl (Nat.le_of_ble_eq_true rfl) rfl ?_
    refine wp_iload_n dX2_isWord_20 rfl rfl ?_
    refine wp_aload_n dX2_isWord_21 rfl rfl ?_
    refine wp_callV0 (d' := d - 1) cv_RX2_19 1001 rfl [] [(0, 0)] rfl rfl (Or.inr ⟨by decide, by decide, rfl⟩) (by omega) (Nat.le_of_ble_eq_true rfl) dX2_isWord_22 rfl (Nat.le_of_ble_eq_true rfl) (by omega) (loc1 := [(2, 1001)]) rfl ?_
    refine sp_slen_1 (by omega) ?_
    refine wp_icmp_ge (tgt := 67) dX2_isWord_25 (by decide) (fun h => absurd h (by decide)) (fun _ => ?_)
    refine wp_aload_n dX2_isWord_28 rfl rfl ?_
    refine wp_get 23 rfl fl_RX2_64 rfl ⟨by omega, by omega⟩ dX2_isWord_29 rfl (v := (x : Int)) (hx) ?_
    refine wp_iload_n dX2_isWord_32 rfl rfl ?_
    refine wp_iadd dX2_isWord_33 (by omega) ?_
    refine wp_sipush dX2_isWord_34 (by decide) (by decide) ?_
    refine wp_icmp_ge (tgt := 67) dX2_isWord_37 (by decide) (fun h => absurd h (by omega)) (fun _ => ?_)
    refine wp_aload_n dX2_isWord_40 rfl rfl ?_
    refine wp_get 23 rfl fl_RX2_11 rfl ⟨by omega, by omega⟩ dX2_isWord_41 rfl (v := 24) (qr_23_0 (M := M) hR) ?_
    refine wp_aload_n dX2_isWord_44 rfl rfl ?_
    refine wp_get 23 rfl fl_RX2_64 rfl ⟨by omega, by omega⟩ dX2_isWord_45 rfl (v := (x : Int)) (hx) ?_
    refine wp_iload_n dX2_isWord_48 rfl rfl ?_
    refine wp_iadd dX2_isWord_49 (by omega) ?_
    refine wp_iald 24 rfl rfl ⟨by omega, by omega⟩ ⟨by omega, by omega⟩ dX2_isWord_50 (v := (f (x + 0))) (by rw [show (((x : Int) + 0)).toNat = (x + 0) by omega]; exact congrFun hf (x + 0)) ?_
    refine wp_aload_n dX2_isWord_51 rfl rfl ?_
    refine wp_iload_n dX2_isWord_52 rfl rfl ?_
    refine wp_callV0 (d' := d - 1) cv_RX2_25 1001 rfl [(0, 0)] [(0, (f (x + 0)))] rfl rfl (Or.inr ⟨by decide, by decide, rfl⟩) (by omega) (Nat.le_of_ble_eq_true rfl) dX2_isWord_53 rfl (Nat.le_of_ble_eq_true rfl) (by omega) (loc1 := [(2, 1001), (0, 0)]) rfl ?_
    refine sp_charAt_1 (by omega) (i := 0) (by decide) ?_
    refine wp_icmp_eq (tgt := 61) dX2_isWord_56 (by decide) (fun h56 => ?_) (fun h56 => ?_)
    · refine wp_iinc (loc' := [(2, 23), (2, 1001), (0, 1)]) dX2_isWord_61 rfl (by omega) rfl ?_
      refine wp_goto (tgt := 20) dX2_isWord_64 (by decide) ?_
      have e0 : f (x + 0) = byt 1 0 := h56
      refine wp_iload_n dX2_isWord_20 rfl rfl ?_
      refine wp_aload_n dX2_isWord_21 rfl rfl ?_
      refine wp_callV0 (d' := d - 1) cv_RX2_19 1001 rfl [] [(0, 1)] rfl rfl (Or.inr ⟨by decide, by decide, rfl⟩) (by omega) (Nat.le_of_ble_eq_true rfl) dX2_isWord_22 rfl (Nat.le_of_ble_eq_true rfl) (by omega) (loc1 := [(2, 1001)]) rfl ?_
      refine sp_slen_1 (by omega) ?_
      refine wp_icmp_ge (tgt := 67) dX2_isWord_25 (by decide) (fun h => absurd h (by decide)) (fun _ => ?_)
      refine wp_aload_n dX2_isWord_28 rfl rfl ?_
      refine wp_get 23 rfl fl_RX2_64 rfl ⟨by omega, by omega⟩ dX2_isWord_29 rfl (v := (x : Int)) (hx) ?_
      refine wp_iload_n dX2_isWord_32 rfl rfl ?_
      refine wp_iadd dX2_isWord_33 (by omega) ?_
      refine wp_sipush dX2_isWord_34 (by decide) (by decide) ?_
      refine wp_icmp_ge (tgt := 67) dX2_isWord_37 (by decide) (fun h => absurd h (by omega)) (fun _ => ?_)
      refine wp_aload_n dX2_isWord_40 rfl rfl ?_
      refine wp_get 23 rfl fl_RX2_11 rfl ⟨by omega, by omega⟩ dX2_isWord_41 rfl (v := 24) (qr_23_0 (M := M) hR) ?_
      refine wp_aload_n dX2_isWord_44 rfl rfl ?_
      refine wp_get 23 rfl fl_RX2_64 rfl ⟨by omega, by omega⟩ dX2_isWord_45 rfl (v := (x : Int)) (hx) ?_
      refine wp_iload_n dX2_isWord_48 rfl rfl ?_
      refine wp_iadd dX2_isWord_49 (by omega) ?_
      refine wp_iald 24 rfl rfl ⟨by omega, by omega⟩ ⟨by omega, by omega⟩ dX2_isWord_50 (v := (f (x + 1))) (by rw [show (((x : Int) + 1)).toNat = (x + 1) by omega]; exact congrFun hf (x + 1)) ?_
      refine wp_aload_n dX2_isWord_51 rfl rfl ?_
      refine wp_iload_n dX2_isWord_52 rfl rfl ?_
      refine wp_callV0 (d' := d - 1) cv_RX2_25 1001 rfl [(0, 1)] [(0, (f (x + 1)))] rfl rfl (Or.inr ⟨by decide, by decide, rfl⟩) (by omega) (Nat.le_of_ble_eq_true rfl) dX2_isWord_53 rfl (Nat.le_of_ble_eq_true rfl) (by omega) (loc1 := [(2, 1001), (0, 1)]) rfl ?_
      refine sp_charAt_1 (by omega) (i := 1) (by decide) ?_
      refine wp_icmp_eq (tgt := 61) dX2_isWord_56 (by decide) (fun h56 => ?_) (fun h56 => ?_)
      · refine wp_iinc (loc' := [(2, 23), (2, 1001), (0, 2)]) dX2_isWord_61 rfl (by omega) rfl ?_
        refine wp_goto (tgt := 20) dX2_isWord_64 (by decide) ?_
        have e1 : f (x + 1) = byt 1 1 := h56
        refine wp_iload_n dX2_isWord_20 rfl rfl ?_
        refine wp_aload_n dX2_isWord_21 rfl rfl ?_
        refine wp_callV0 (d' := d - 1) cv_RX2_19 1001 rfl [] [(0, 2)] rfl rfl (Or.inr ⟨by decide, by decide, rfl⟩) (by omega) (Nat.le_of_ble_eq_true rfl) dX2_isWord_22 rfl (Nat.le_of_ble_eq_true rfl) (by omega) (loc1 := [(2, 1001)]) rfl ?_
        refine sp_slen_1 (by omega) ?_
        refine wp_icmp_ge (tgt := 67) dX2_isWord_25 (by decide) (fun h => absurd h (by decide)) (fun _ => ?_)
        refine wp_aload_n dX2_isWord_28 rfl rfl ?_
        refine wp_get 23 rfl fl_RX2_64 rfl ⟨by omega, by omega⟩ dX2_isWord_29 rfl (v := (x : Int)) (hx) ?_
        refine wp_iload_n dX2_isWord_32 rfl rfl ?_
        refine wp_iadd dX2_isWord_33 (by omega) ?_
        refine wp_sipush dX2_isWord_34 (by decide) (by decide) ?_
        refine wp_icmp_ge (tgt := 67) dX2_isWord_37 (by decide) (fun h => absurd h (by omega)) (fun _ => ?_)
        refine wp_aload_n dX2_isWord_40 rfl rfl ?_
        refine wp_get 23 rfl fl_RX2_11 rfl ⟨by omega, by omega⟩ dX2_isWord_41 rfl (v := 24) (qr_23_0 (M := M) hR) ?_
        refine wp_aload_n dX2_isWord_44 rfl rfl ?_
        refine wp_get 23 rfl fl_RX2_64 rfl ⟨by omega, by omega⟩ dX2_isWord_45 rfl (v := (x : Int)) (hx) ?_
        refine wp_iload_n dX2_isWord_48 rfl rfl ?_
        refine wp_iadd dX2_isWord_49 (by omega) ?_
        refine wp_iald 24 rfl rfl ⟨by omega, by omega⟩ ⟨by omega, by omega⟩ dX2_isWord_50 (v := (f (x + 2))) (by rw [show (((x : Int) + 2)).toNat = (x + 2) by omega]; exact congrFun hf (x + 2)) ?_
        refine wp_aload_n dX2_isWord_51 rfl rfl ?_
        refine wp_iload_n dX2_isWord_52 rfl rfl ?_
        refine wp_callV0 (d' := d - 1) cv_RX2_25 1001 rfl [(0, 2)] [(0, (f (x + 2)))] rfl rfl (Or.inr ⟨by decide, by decide, rfl⟩) (by omega) (Nat.le_of_ble_eq_true rfl) dX2_isWord_53 rfl (Nat.le_of_ble_eq_true rfl) (by omega) (loc1 := [(2, 1001), (0, 2)]) rfl ?_
        refine sp_charAt_1 (by omega) (i := 2) (by decide) ?_
        refine wp_icmp_eq (tgt := 61) dX2_isWord_56 (by decide) (fun h56 => ?_) (fun h56 => ?_)
        · refine wp_iinc (loc' := [(2, 23), (2, 1001), (0, 3)]) dX2_isWord_61 rfl (by omega) rfl ?_
          refine wp_goto (tgt := 20) dX2_isWord_64 (by decide) ?_
          have e2 : f (x + 2) = byt 1 2 := h56
          refine wp_iload_n dX2_isWord_20 rfl rfl ?_
          refine wp_aload_n dX2_isWord_21 rfl rfl ?_
          refine wp_callV0 (d' := d - 1) cv_RX2_19 1001 rfl [] [(0, 3)] rfl rfl (Or.inr ⟨by decide, by decide, rfl⟩) (by omega) (Nat.le_of_ble_eq_true rfl) dX2_isWord_22 rfl (Nat.le_of_ble_eq_true rfl) (by omega) (loc1 := [(2, 1001)]) rfl ?_
          refine sp_slen_1 (by omega) ?_
          refine wp_icmp_ge (tgt := 67) dX2_isWord_25 (by decide) (fun h => absurd h (by decide)) (fun _ => ?_)
          refine wp_aload_n dX2_isWord_28 rfl rfl ?_
          refine wp_get 23 rfl fl_RX2_64 rfl ⟨by omega, by omega⟩ dX2_isWord_29 rfl (v := (x : Int)) (hx) ?_
          refine wp_iload_n dX2_isWord_32 rfl rfl ?_
          refine wp_iadd dX2_isWord_33 (by omega) ?_
          refine wp_sipush dX2_isWord_34 (by decide) (by decide) ?_
          refine wp_icmp_ge (tgt := 67) dX2_isWord_37 (by decide) (fun h => absurd h (by omega)) (fun _ => ?_)
          refine wp_aload_n dX2_isWord_40 rfl rfl ?_
          refine wp_get 23 rfl fl_RX2_11 rfl ⟨by omega, by omega⟩ dX2_isWord_41 rfl (v := 24) (qr_23_0 (M := M) hR) ?_
          refine wp_aload_n dX2_isWord_44 rfl rfl ?_
          refine wp_get 23 rfl fl_RX2_64 rfl ⟨by omega, by omega⟩ dX2_isWord_45 rfl (v := (x : Int)) (hx) ?_
          refine wp_iload_n dX2_isWord_48 rfl rfl ?_
          refine wp_iadd dX2_isWord_49 (by omega) ?_
          refine wp_iald 24 rfl rfl ⟨by omega, by omega⟩ ⟨by omega, by omega⟩ dX2_isWord_50 (v := (f (x + 3))) (by rw [show (((x : Int) + 3)).toNat = (x + 3) by omega]; exact congrFun hf (x + 3)) ?_
          refine wp_aload_n dX2_isWord_51 rfl rfl ?_
          refine wp_iload_n dX2_isWord_52 rfl rfl ?_
          refine wp_callV0 (d' := d - 1) cv_RX2_25 1001 rfl [(0, 3)] [(0, (f (x + 3)))] rfl rfl (Or.inr ⟨by decide, by decide, rfl⟩) (by omega) (Nat.le_of_ble_eq_true rfl) dX2_isWord_53 rfl (Nat.le_of_ble_eq_true rfl) (by omega) (loc1 := [(2, 1001), (0, 3)]) rfl ?_
          refine sp_charAt_1 (by omega) (i := 3) (by decide) ?_
          refine wp_icmp_eq (tgt := 61) dX2_isWord_56 (by decide) (fun h56 => ?_) (fun h56 => ?_)
          · refine wp_iinc (loc' := [(2, 23), (2, 1001), (0, 4)]) dX2_isWord_61 rfl (by omega) rfl ?_
            refine wp_goto (tgt := 20) dX2_isWord_64 (by decide) ?_
            have e3 : f (x + 3) = byt 1 3 := h56
            refine wp_iload_n dX2_isWord_20 rfl rfl ?_
            refine wp_aload_n dX2_isWord_21 rfl rfl ?_
            refine wp_callV0 (d' := d - 1) cv_RX2_19 1001 rfl [] [(0, 4)] rfl rfl (Or.inr ⟨by decide, by decide, rfl⟩) (by omega) (Nat.le_of_ble_eq_true rfl) dX2_isWord_22 rfl (Nat.le_of_ble_eq_true rfl) (by omega) (loc1 := [(2, 1001)]) rfl ?_
            refine sp_slen_1 (by omega) ?_
            refine wp_icmp_ge (tgt := 67) dX2_isWord_25 (by decide) (fun h => absurd h (by decide)) (fun _ => ?_)
            refine wp_aload_n dX2_isWord_28 rfl rfl ?_
            refine wp_get 23 rfl fl_RX2_64 rfl ⟨by omega, by omega⟩ dX2_isWord_29 rfl (v := (x : Int)) (hx) ?_
            refine wp_iload_n dX2_isWord_32 rfl rfl ?_
            refine wp_iadd dX2_isWord_33 (by omega) ?_
            refine wp_sipush dX2_isWord_34 (by decide) (by decide) ?_
            refine wp_icmp_ge (tgt := 67) dX2_isWord_37 (by decide) (fun h => absurd h (by omega)) (fun _ => ?_)
            refine wp_aload_n dX2_isWord_40 rfl rfl ?_
            refine wp_get 23 rfl fl_RX2_11 rfl ⟨by omega, by omega⟩ dX2_isWord_41 rfl (v := 24) (qr_23_0 (M := M) hR) ?_
            refine wp_aload_n dX2_isWord_44 rfl rfl ?_
            refine wp_get 23 rfl fl_RX2_64 rfl ⟨by omega, by omega⟩ dX2_isWord_45 rfl (v := (x : Int)) (hx) ?_
            refine wp_iload_n dX2_isWord_48 rfl rfl ?_
            refine wp_iadd dX2_isWord_49 (by omega) ?_
            refine wp_iald 24 rfl rfl ⟨by omega, by omega⟩ ⟨by omega, by omega⟩ dX2_isWord_50 (v := (f (x + 4))) (by rw [show (((x : Int) + 4)).toNat = (x + 4) by omega]; exact congrFun hf (x + 4)) ?_
            refine wp_aload_n dX2_isWord_51 rfl rfl ?_
            refine wp_iload_n dX2_isWord_52 rfl rfl ?_
            refine wp_callV0 (d' := d - 1) cv_RX2_25 1001 rfl [(0, 4)] [(0, (f (x + 4)))] rfl rfl (Or.inr ⟨by decide, by decide, rfl⟩) (by omega) (Nat.le_of_ble_eq_true rfl) dX2_isWord_53 rfl (Nat.le_of_ble_eq_true rfl) (by omega) (loc1 := [(2, 1001), (0, 4)]) rfl ?_
            refine sp_charAt_1 (by omega) (i := 4) (by decide) ?_
            refine wp_icmp_eq (tgt := 61) dX2_isWord_56 (by decide) (fun h56 => ?_) (fun h56 => ?_)
            · refine wp_iinc (loc' := [(2, 23), (2, 1001), (0, 5)]) dX2_isWord_61 rfl (by omega) rfl ?_
              refine wp_goto (tgt := 20) dX2_isWord_64 (by decide) ?_
              have e4 : f (x + 4) = byt 1 4 := h56
              refine wp_iload_n dX2_isWord_20 rfl rfl ?_
              refine wp_aload_n dX2_isWord_21 rfl rfl ?_
              refine wp_callV0 (d' := d - 1) cv_RX2_19 1001 rfl [] [(0, 5)] rfl rfl (Or.inr ⟨by decide, by decide, rfl⟩) (by omega) (Nat.le_of_ble_eq_true rfl) dX2_isWord_22 rfl (Nat.le_of_ble_eq_true rfl) (by omega) (loc1 := [(2, 1001)]) rfl ?_
              refine sp_slen_1 (by omega) ?_
              refine wp_icmp_ge (tgt := 67) dX2_isWord_25 (by decide) (fun _ => ?_) (fun h => absurd h (by decide))
              refine wp_iconst dX2_isWord_67 (by decide) ?_
              refine wp_zret rfl (by omega) dX2_isWord_68 ?_
              refine kt (decide_eq_true ⟨by show y = x + 5; omega, fun i hi => ?_⟩)
              have hi : i < 5 := hi
              match i, hi with
              | 0, _ => exact e0
              | 1, _ => exact e1
              | 2, _ => exact e2
              | 3, _ => exact e3
              | 4, _ => exact e4
              | i + 5, hi => exact absurd hi (by omega)
            · refine wp_iconst dX2_isWord_59 (by decide) ?_
              refine wp_zret rfl (by omega) dX2_isWord_60 ?_
              exact kf (decide_eq_false (fun h => h56 (h.2 4 (by decide))))
          · refine wp_iconst dX2_isWord_59 (by decide) ?_
            refine wp_zret rfl (by omega) dX2_isWord_60 ?_
            exact kf (decide_eq_false (fun h => h56 (h.2 3 (by decide))))
        · refine wp_iconst dX2_isWord_59 (by decide) ?_
          refine wp_zret rfl (by omega) dX2_isWord_60 ?_
          exact kf (decide_eq_false (fun h => h56 (h.2 2 (by decide))))
      · refine wp_iconst dX2_isWord_59 (by decide) ?_
        refine wp_zret rfl (by omega) dX2_isWord_60 ?_
        exact kf (decide_eq_false (fun h => h56 (h.2 1 (by decide))))
    · refine wp_iconst dX2_isWord_59 (by decide) ?_
      refine wp_zret rfl (by omega) dX2_isWord_60 ?_
      exact kf (decide_eq_false (fun h => h56 (h.2 0 (by decide))))
  · refine wp_iconst dX2_isWord_16 (by decide) ?_
    refine wp_zret rfl (by omega) dX2_isWord_17 ?_
    exact kf (decide_eq_false (fun h => h13 (by have h1 : y = x + 5 := h.1; omega)))
set_option maxRecDepth 20000 in
set_option maxHeartbeats 4000000 in
theorem sp_isWord_2 {l : Launch} {g : Gw} {d n : Nat} {M : Mm} {Q : Option Wd → Mm → Prop} (hn : 60 ≤ n) {f : Nat → Int} {z : Int} (hP : TP M f z) (hd : 5 ≤ d) {x y : Nat} (hx : M 23 3 = (x : Int)) (hy : M 23 4 = (y : Int)) (hxy : x ≤ y) (hyz : (y : Int) ≤ z) (kt : wmB 2 f x y = true → Q (some (0, 1)) M) (kf : wmB 2 f x y = false → Q (some (0, 0)) M) : Wp l g d 0 0 n m_X2_isWord 0 [] [(2, 23), (2, 1002), (9, 0)] M Q := by
  obtain ⟨hR, hf, hz, hz0, hz1⟩ := id hP
  refine wp_aload_n dX2_isWord_0 rfl rfl ?_
  refine wp_callV0 (d' := d - 1) cv_RX2_19 1002 rfl [] [] rfl rfl (Or.inr ⟨by decide, by decide, rfl⟩) (by omega) (Nat.le_of_ble_eq_true rfl) dX2_isWord_1 rfl (Nat.le_of_ble_eq_true rfl) (by omega) (loc1 := [(2, 1002)]) rfl ?_
  refine sp_slen_2 (by omega) ?_
  refine wp_aload_n dX2_isWord_4 rfl rfl ?_
  refine wp_get 23 rfl fl_RX2_42 rfl ⟨by omega, by omega⟩ dX2_isWord_5 rfl (v := (y : Int)) (hy) ?_
  refine wp_aload_n dX2_isWord_8 rfl rfl ?_
  refine wp_get 23 rfl fl_RX2_64 rfl ⟨by omega, by omega⟩ dX2_isWord_9 rfl (v := (x : Int)) (hx) ?_
  refine wp_isub dX2_isWord_12 (by omega) ?_
  refine wp_icmp_eq (tgt := 18) dX2_isWord_13 (by decide) (fun h13 => ?_) (fun h13 => ?_)
  · refine wp_iconst dX2_isWord_18 (by decide) ?_
    refine wp_istore_n (loc' := [(2, 23), (2, 1002), (0, 0)]) dX2_isWord_19 rfl (Nat.le_of_ble_eq_true rfl) rfl ?_
    refine wp_iload_n dX2_isWord_20 rfl rfl ?_
    refine wp_aload_n dX2_isWord_21 rfl rfl ?_
    refine wp_callV0 (d' := d - 1) cv_RX2_19 1002 rfl [] [(0, 0)] rfl rfl (Or.inr ⟨by decide, by decide, rfl⟩) (by omega) (Nat.le_of_ble_eq_true rfl) dX2_isWord_22 rfl (Nat.le_of_ble_eq_true rfl) (by omega) (loc1 := [(2, 1002)]) rfl ?_
    refine sp_slen_2 (by omega) ?_
    refine wp_icmp_ge (tgt := 67) dX2_isWord_25 (by decide) (fun h => absurd h (by decide)) (fun _ => ?_)
    refine wp_aload_n dX2_isWord_28 rfl rfl ?_
    refine wp_get 23 rfl fl_RX2_64 rfl ⟨by omega, by omega⟩ dX2_isWord_29 rfl (v := (x : Int)) (hx) ?_
    refine wp_iload_n dX2_isWord_32 rfl rfl ?_
    refine wp_iadd dX2_isWord_33 (by omega) ?_
    refine wp_sipush dX2_isWord_34 (by decide) (by decide) ?_
    refine wp_icmp_ge (tgt := 67) dX2_isWord_37 (by decide) (fun h => absurd h (by omega)) (fun _ => ?_)
    refine wp_aload_n dX2_isWord_40 rfl rfl ?_
    refine wp_get 23 rfl fl_RX2_11 rfl ⟨by omega, by omega⟩ dX2_isWord_41 rfl (v := 24) (qr_23_0 (M := M) hR) ?_
    refine wp_aload_n dX2_isWord_44 rfl rfl ?_
    refine wp_get 23 rfl fl_RX2_64 rfl ⟨by omega, by omega⟩ dX2_isWord_45 rfl (v := (x : Int)) (hx) ?_
    refine wp_iload_n dX2_isWord_48 rfl rfl ?_
    refine wp_iadd dX2_isWord_49 (by omega) ?_
    refine wp_iald 24 rfl rfl ⟨by omega, by omega⟩ ⟨by omega, by omega⟩ dX2_isWord_50 (v := (f (x + 0))) (by rw [show (((x : Int) + 0)).toNat = (x + 0) by omega]; exact congrFun hf (x + 0)) ?_
    refine wp_aload_n dX2_isWord_51 rfl rfl ?_
    refine wp_iload_n dX2_isWord_52 rfl rfl ?_
    refine wp_callV0 (d' := d - 1) cv_RX2_25 1002 rfl [(0, 0)] [(0, (f (x + 0)))] rfl rfl (Or.inr ⟨by decide, by decide, rfl⟩) (by omega) (Nat.le_of_ble_eq_true rfl) dX2_isWord_53 rfl (Nat.le_of_ble_eq_true rfl) (by omega) (loc1 := [(2, 1002), (0, 0)]) rfl ?_
    refine sp_charAt_2 (by omega) (i := 0) (by decide) ?_
    refine wp_icmp_eq (tgt := 61) dX2_isWord_56 (by decide) (fun h56 => ?_) (fun h56 => ?_)
    · refine wp_iinc (loc' := [(2, 23), (2, 1002), (0, 1)]) dX2_isWord_61 rfl (by omega) rfl ?_
      refine wp_goto (tgt := 20) dX2_isWord_64 (by decide) ?_
      have e0 : f (x + 0) = byt 2 0 := h56
      refine wp_iload_n dX2_isWord_20 rfl rfl ?_
      refine wp_aload_n dX2_isWord_21 rfl rfl ?_
      refine wp_callV0 (d' := d - 1) cv_RX2_19 1002 rfl [] [(0, 1)] rfl rfl (Or.inr ⟨by decide, by decide, rfl⟩) (by omega) (Nat.le_of_ble_eq_true rfl) dX2_isWord_22 rfl (Nat.le_of_ble_eq_true rfl) (by omega) (loc1 := [(2, 1002)]) rfl ?_
      refine sp_slen_2 (by omega) ?_
      refine wp_icmp_ge (tgt := 67) dX2_isWord_25 (by decide) (fun h => absurd h (by decide)) (fun _ => ?_)
      refine wp_aload_n dX2_isWord_28 rfl rfl ?_
      refine wp_get 23 rfl fl_RX2_64 rfl ⟨by omega, by omega⟩ dX2_isWord_29 rfl (v := (x : Int)) (hx) ?_
      refine wp_iload_n dX2_isWord_32 rfl rfl ?_
      refine wp_iadd dX2_isWord_33 (by omega) ?_
      refine wp_sipush dX2_isWord_34 (by decide) (by decide) ?_
      refine wp_icmp_ge (tgt := 67) dX2_isWord_37 (by decide) (fun h => absurd h (by omega)) (fun _ => ?_)
      refine wp_aload_n dX2_isWord_40 rfl rfl ?_
      refine wp_get 23 rfl fl_RX2_11 rfl ⟨by omega, by omega⟩ dX2_isWord_41 rfl (v := 24) (qr_23_0 (M := M) hR) ?_
      refine wp_aload_n dX2_isWord_44 rfl rfl ?_
      refine wp_get 23 rfl fl_RX2_64 rfl ⟨by omega, by omega⟩ dX2_isWord_45 rfl (v := (x : Int)) (hx) ?_
      refine wp_iload_n dX2_isWord_48 rfl rfl ?_
      refine wp_iadd dX2_isWord_49 (by omega) ?_
      refine wp_iald 24 rfl rfl ⟨by omega, by omega⟩ ⟨by omega, by omega⟩ dX2_isWord_50 (v := (f (x + 1))) (by rw [show (((x : Int) + 1)).toNat = (x + 1) by omega]; exact congrFun hf (x + 1)) ?_
      refine wp_aload_n dX2_isWord_51 rfl rfl ?_
      refine wp_iload_n dX2_isWord_52 rfl rfl ?_
      refine wp_callV0 (d' := d - 1) cv_RX2_25 1002 rfl [(0, 1)] [(0, (f (x + 1)))] rfl rfl (Or.inr ⟨by decide, by decide, rfl⟩) (by omega) (Nat.le_of_ble_eq_true rfl) dX2_isWord_53 rfl (Nat.le_of_ble_eq_true rfl) (by omega) (loc1 := [(2, 1002), (0, 1)]) rfl ?_
      refine sp_charAt_2 (by omega) (i := 1) (by decide) ?_
      refine wp_icmp_eq (tgt := 61) dX2_isWord_56 (by decide) (fun h56 => ?_) (fun h56 => ?_)
      · refine wp_iinc (loc' := [(2, 23), (2, 1002), (0, 2)]) dX2_isWord_61 rfl (by omega) rfl ?_
        refine wp_goto (tgt := 20) dX2_isWord_64 (by decide) ?_
        have e1 : f (x + 1) = byt 2 1 := h56
        refine wp_iload_n dX2_isWord_20 rfl rfl ?_
        refine wp_aload_n dX2_isWord_21 rfl rfl ?_
        refine wp_callV0 (d' := d - 1) cv_RX2_19 1002 rfl [] [(0, 2)] rfl rfl (Or.inr ⟨by decide, by decide, rfl⟩) (by omega) (Nat.le_of_ble_eq_true rfl) dX2_isWord_22 rfl (Nat.le_of_ble_eq_true rfl) (by omega) (loc1 := [(2, 1002)]) rfl ?_
        refine sp_slen_2 (by omega) ?_
        refine wp_icmp_ge (tgt := 67) dX2_isWord_25 (by decide) (fun h => absurd h (by decide)) (fun _ => ?_)
        refine wp_aload_n dX2_isWord_28 rfl rfl ?_
        refine wp_get 23 rfl fl_RX2_64 rfl ⟨by omega, by omega⟩ dX2_isWord_29 rfl (v := (x : Int)) (hx) ?_
        refine wp_iload_n dX2_isWord_32 rfl rfl ?_
        refine wp_iadd dX2_isWord_33 (by omega) ?_
        refine wp_sipush dX2_isWord_34 (by decide) (by decide) ?_
        refine wp_icmp_ge (tgt := 67) dX2_isWord_37 (by decide) (fun h => absurd h (by omega)) (fun _ => ?_)
        refine wp_aload_n dX2_isWord_40 rfl rfl ?_
        refine wp_get 23 rfl fl_RX2_11 rfl ⟨by omega, by omega⟩ dX2_isWord_41 rfl (v := 24) (qr_23_0 (M := M) hR) ?_
        refine wp_aload_n dX2_isWord_44 rfl rfl ?_
        refine wp_get 23 rfl fl_RX2_64 rfl ⟨by omega, by omega⟩ dX2_isWord_45 rfl (v := (x : Int)) (hx) ?_
        refine wp_iload_n dX2_isWord_48 rfl rfl ?_
        refine wp_iadd dX2_isWord_49 (by omega) ?_
        refine wp_iald 24 rfl rfl ⟨by omega, by omega⟩ ⟨by omega, by omega⟩ dX2_isWord_50 (v := (f (x + 2))) (by rw [show (((x : Int) + 2)).toNat = (x + 2) by omega]; exact congrFun hf (x + 2)) ?_
        refine wp_aload_n dX2_isWord_51 rfl rfl ?_
        refine wp_iload_n dX2_isWord_52 rfl rfl ?_
        refine wp_callV0 (d' := d - 1) cv_RX2_25 1002 rfl [(0, 2)] [(0, (f (x + 2)))] rfl rfl (Or.inr ⟨by decide, by decide, rfl⟩) (by omega) (Nat.le_of_ble_eq_true rfl) dX2_isWord_53 rfl (Nat.le_of_ble_eq_true rfl) (by omega) (loc1 := [(2, 1002), (0, 2)]) rfl ?_
        refine sp_charAt_2 (by omega) (i := 2) (by decide) ?_
        refine wp_icmp_eq (tgt := 61) dX2_isWord_56 (by decide) (fun h56 => ?_) (fun h56 => ?_)
        · refine wp_iinc (loc' := [(2, 23), (2, 1002), (0, 3)]) dX2_isWord_61 rfl (by omega) rfl ?_
          refine wp_goto (tgt := 20) dX2_isWord_64 (by decide) ?_
          have e2 : f (x + 2) = byt 2 2 := h56
          refine wp_iload_n dX2_isWord_20 rfl rfl ?_
          refine wp_aload_n dX2_isWord_21 rfl rfl ?_
          refine wp_callV0 (d' := d - 1) cv_RX2_19 1002 rfl [] [(0, 3)] rfl rfl (Or.inr ⟨by decide, by decide, rfl⟩) (by omega) (Nat.le_of_ble_eq_true rfl) dX2_isWord_22 rfl (Nat.le_of_ble_eq_true rfl) (by omega) (loc1 := [(2, 1002)]) rfl ?_
          refine sp_slen_2 (by omega) ?_
          refine wp_icmp_ge (tgt := 67) dX2_isWord_25 (by decide) (fun h => absurd h (by decide)) (fun _ => ?_)
          refine wp_aload_n dX2_isWord_28 rfl rfl ?_
          refine wp_get 23 rfl fl_RX2_64 rfl ⟨by omega, by omega⟩ dX2_isWord_29 rfl (v := (x : Int)) (hx) ?_
          refine wp_iload_n dX2_isWord_32 rfl rfl ?_
          refine wp_iadd dX2_isWord_33 (by omega) ?_
          refine wp_sipush dX2_isWord_34 (by decide) (by decide) ?_
          refine wp_icmp_ge (tgt := 67) dX2_isWord_37 (by decide) (fun h => absurd h (by omega)) (fun _ => ?_)
          refine wp_aload_n dX2_isWord_40 rfl rfl ?_
          refine wp_get 23 rfl fl_RX2_11 rfl ⟨by omega, by omega⟩ dX2_isWord_41 rfl (v := 24) (qr_23_0 (M := M) hR) ?_
          refine wp_aload_n dX2_isWord_44 rfl rfl ?_
          refine wp_get 23 rfl fl_RX2_64 rfl ⟨by omega, by omega⟩ dX2_isWord_45 rfl (v := (x : Int)) (hx) ?_
          refine wp_iload_n dX2_isWord_48 rfl rfl ?_
          refine wp_iadd dX2_isWord_49 (by omega) ?_
          refine wp_iald 24 rfl rfl ⟨by omega, by omega⟩ ⟨by omega, by omega⟩ dX2_isWord_50 (v := (f (x + 3))) (by rw [show (((x : Int) + 3)).toNat = (x + 3) by omega]; exact congrFun hf (x + 3)) ?_
          refine wp_aload_n dX2_isWord_51 rfl rfl ?_
          refine wp_iload_n dX2_isWord_52 rfl rfl ?_
          refine wp_callV0 (d' := d - 1) cv_RX2_25 1002 rfl [(0, 3)] [(0, (f (x + 3)))] rfl rfl (Or.inr ⟨by decide, by decide, rfl⟩) (by omega) (Nat.le_of_ble_eq_true rfl) dX2_isWord_53 rfl (Nat.le_of_ble_eq_true rfl) (by omega) (loc1 := [(2, 1002), (0, 3)]) rfl ?_
          refine sp_charAt_2 (by omega) (i := 3) (by decide) ?_
          refine wp_icmp_eq (tgt := 61) dX2_isWord_56 (by decide) (fun h56 => ?_) (fun h56 => ?_)
          · refine wp_iinc (loc' := [(2, 23), (2, 1002), (0, 4)]) dX2_isWord_61 rfl (by omega) rfl ?_
            refine wp_goto (tgt := 20) dX2_isWord_64 (by decide) ?_
            have e3 : f (x + 3) = byt 2 3 := h56
            refine wp_iload_n dX2_isWord_20 rfl rfl ?_
            refine wp_aload_n dX2_isWord_21 rfl rfl ?_
            refine wp_callV0 (d' := d - 1) cv_RX2_19 1002 rfl [] [(0, 4)] rfl rfl (Or.inr ⟨by decide, by decide, rfl⟩) (by omega) (Nat.le_of_ble_eq_true rfl) dX2_isWord_22 rfl (Nat.le_of_ble_eq_true rfl) (by omega) (loc1 := [(2, 1002)]) rfl ?_
            refine sp_slen_2 (by omega) ?_
            refine wp_icmp_ge (tgt := 67) dX2_isWord_25 (by decide) (fun h => absurd h (by decide)) (fun _ => ?_)
            refine wp_aload_n dX2_isWord_28 rfl rfl ?_
            refine wp_get 23 rfl fl_RX2_64 rfl ⟨by omega, by omega⟩ dX2_isWord_29 rfl (v := (x : Int)) (hx) ?_
            refine wp_iload_n dX2_isWord_32 rfl rfl ?_
            refine wp_iadd dX2_isWord_33 (by omega) ?_
            refine wp_sipush dX2_isWord_34 (by decide) (by decide) ?_
            refine wp_icmp_ge (tgt := 67) dX2_isWord_37 (by decide) (fun h => absurd h (by omega)) (fun _ => ?_)
            refine wp_aload_n dX2_isWord_40 rfl rfl ?_
            refine wp_get 23 rfl fl_RX2_11 rfl ⟨by omega, by omega⟩ dX2_isWord_41 rfl (v := 24) (qr_23_0 (M := M) hR) ?_
            refine wp_aload_n dX2_isWord_44 rfl rfl ?_
            refine wp_get 23 rfl fl_RX2_64 rfl ⟨by omega, by omega⟩ dX2_isWord_45 rfl (v := (x : Int)) (hx) ?_
            refine wp_iload_n dX2_isWord_48 rfl rfl ?_
            refine wp_iadd dX2_isWord_49 (by omega) ?_
            refine wp_iald 24 rfl rfl ⟨by omega, by omega⟩ ⟨by omega, by omega⟩ dX2_isWord_50 (v := (f (x + 4))) (by rw [show (((x : Int) + 4)).toNat = (x + 4) by omega]; exact congrFun hf (x + 4)) ?_
            refine wp_aload_n dX2_isWord_51 rfl rfl ?_
            refine wp_iload_n dX2_isWord_52 rfl rfl ?_
            refine wp_callV0 (d' := d - 1) cv_RX2_25 1002 rfl [(0, 4)] [(0, (f (x + 4)))] rfl rfl (Or.inr ⟨by decide, by decide, rfl⟩) (by omega) (Nat.le_of_ble_eq_true rfl) dX2_isWord_53 rfl (Nat.le_of_ble_eq_true rfl) (by omega) (loc1 := [(2, 1002), (0, 4)]) rfl ?_
            refine sp_charAt_2 (by omega) (i := 4) (by decide) ?_
            refine wp_icmp_eq (tgt := 61) dX2_isWord_56 (by decide) (fun h56 => ?_) (fun h56 => ?_)
            · refine wp_iinc (loc' := [(2, 23), (2, 1002), (0, 5)]) dX2_isWord_61 rfl (by omega) rfl ?_
              refine wp_goto (tgt := 20) dX2_isWord_64 (by decide) ?_
              have e4 : f (x + 4) = byt 2 4 := h56
              refine wp_iload_n dX2_isWord_20 rfl rfl ?_
              refine wp_aload_n dX2_isWord_21 rfl rfl ?_
              refine wp_callV0 (d' := d - 1) cv_RX2_19 1002 rfl [] [(0, 5)] rfl rfl (Or.inr ⟨by decide, by decide, rfl⟩) (by omega) (Nat.le_of_ble_eq_true rfl) dX2_isWord_22 rfl (Nat.le_of_ble_eq_true rfl) (by omega) (loc1 := [(2, 1002)]) rfl ?_
              refine sp_slen_2 (by omega) ?_
              refine wp_icmp_ge (tgt := 67) dX2_isWord_25 (by decide) (fun _ => ?_) (fun h => absurd h (by decide))
              refine wp_iconst dX2_isWord_67 (by decide) ?_
              refine wp_zret rfl (by omega) dX2_isWord_68 ?_
              refine kt (decide_eq_true ⟨by show y = x + 5; omega, fun i hi => ?_⟩)
              have hi : i < 5 := hi
              match i, hi with
              | 0, _ => exact e0
              | 1, _ => exact e1
              | 2, _ => exact e2
              | 3, _ => exact e3
              | 4, _ => exact e4
              | i + 5, hi => exact absurd hi (by omega)
            · refine wp_iconst dX2_isWord_59 (by decide) ?_
              refine wp_zret rfl (by omega) dX2_isWord_60 ?_
              exact kf (decide_eq_false (fun h => h56 (h.2 4 (by decide))))
          · refine wp_iconst dX2_isWord_59 (by decide) ?_
            refine wp_zret rfl (by omega) dX2_isWord_60 ?_
            exact kf (decide_eq_false (fun h => h56 (h.2 3 (by decide))))
        · refine wp_iconst dX2_isWord_59 (by decide) ?_
          refine wp_zret rfl (by omega) dX2_isWord_60 ?_
          exact kf (decide_eq_false (fun h => h56 (h.2 2 (by decide))))
      · refine wp_iconst dX2_isWord_59 (by decide) ?_
        refine wp_zret rfl (by omega) dX2_isWord_60 ?_
        exact kf (decide_eq_false (fun h => h56 (h.2 1 (by decide))))
    · refine wp_iconst dX2_isWord_59 (by decide) ?_
      refine wp_zret rfl (by omega) dX2_isWord_60 ?_
      exact kf (decide_eq_false (fun h => h56 (h.2 0 (by decide))))
  · refine wp_iconst dX2_isWord_16 (by decide) ?_
    refine wp_zret rfl (by omega) dX2_isWord_17 ?_
    exact kf (decide_eq_false (fun h => h13 (by have h1 : y = x + 5 := h.1; omega)))
set_option maxRecDepth 20000 in
set_option maxHeartbeats 4000000 in
theorem sp_isWord_3 {l : Launch} {g : Gw} {d n : Nat} {M : Mm} {Q : Option Wd → Mm → Prop} (hn : 60 ≤ n) {f : Nat → Int} {z : Int} (hP : TP M f z) (hd : 5 ≤ d) {x y : Nat} (hx : M 23 3 = (x : Int)) (hy : M 23 4 = (y : Int)) (hxy : x ≤ y) (hyz : (y : Int) ≤ z) (kt : wmB 3 f x y = true → Q (some (0, 1)) M) (kf : wmB 3 f x y = false → Q (some (0, 0)) M) : Wp l g d 0 0 n m_X2_isWord 0 [] [(2, 23), (2, 1003), (9, 0)] M Q := by
  obtain ⟨hR, hf, hz, hz0, hz1⟩ := id hP
  refine wp_aload_n dX2_isWord_0 rfl rfl ?_
  refine wp_callV0 (d' := d - 1) cv_RX2_19 1003 rfl [] [] rfl rfl (Or.inr ⟨by decide, by decide, rfl⟩) (by omega) (Nat.le_of_ble_eq_true rfl) dX2_isWord_1 rfl (Nat.le_of_ble_eq_true rfl) (by omega) (loc1 := [(2, 1003)]) rfl ?_
  refine sp_slen_3 (by omega) ?_
  refine wp_aload_n dX2_isWord_4 rfl rfl ?_
  refine wp_get 23 rfl fl_RX2_42 rfl ⟨by omega, by omega⟩ dX2_isWord_5 rfl (v := (y : Int)) (hy) ?_
  refine wp_aload_n dX2_isWord_8 rfl rfl ?_
  refine wp_get 23 rfl fl_RX2_64 rfl ⟨by omega, by omega⟩ dX2_isWord_9 rfl (v := (x : Int)) (hx) ?_
  refine wp_isub dX2_isWord_12 (by omega) ?_
  refine wp_icmp_eq (tgt := 18) dX2_isWord_13 (by decide) (fun h13 => ?_) (fun h13 => ?_)
  · refine wp_iconst dX2_isWord_18 (by decide) ?_
    refine wp_istore_n (loc' := [(2, 23), (2, 1003), (0, 0)]) dX2_isWord_19 rfl (Nat.le_of_ble_eq_true rfl) rfl ?_
    refine wp_iload_n dX2_isWord_20 rfl rfl ?_
    refine wp_aload_n dX2_isWord_21 rfl rfl ?_
    refine wp_callV0 (d' := d - 1) cv_RX2_19 1003 rfl [] [(0, 0)] rfl rfl (Or.inr ⟨by decide, by decide, rfl⟩) (by omega) (Nat.le_of_ble_eq_true rfl) dX2_isWord_22 rfl (Nat.le_of_ble_eq_true rfl) (by omega) (loc1 := [(2, 1003)]) rfl ?_
    refine sp_slen_3 (by omega) ?_
    refine wp_icmp_ge (tgt := 67) dX2_isWord_25 (by decide) (fun h => absurd h (by decide)) (fun _ => ?_)
    refine wp_aload_n dX2_isWord_28 rfl rfl ?_
    refine wp_get 23 rfl fl_RX2_64 rfl ⟨by omega, by omega⟩ dX2_isWord_29 rfl (v := (x : Int)) (hx) ?_
    refine wp_iload_n dX2_isWord_32 rfl rfl ?_
    refine wp_iadd dX2_isWord_33 (by omega) ?_
    refine wp_sipush dX2_isWord_34 (by decide) (by decide) ?_
    refine wp_icmp_ge (tgt := 67) dX2_isWord_37 (by decide) (fun h => absurd h (by omega)) (fun _ => ?_)
    refine wp_aload_n dX2_isWord_40 rfl rfl ?_
    refine wp_get 23 rfl fl_RX2_11 rfl ⟨by omega, by omega⟩ dX2_isWord_41 rfl (v := 24) (qr_23_0 (M := M) hR) ?_
    refine wp_aload_n dX2_isWord_44 rfl rfl ?_
    refine wp_get 23 rfl fl_RX2_64 rfl ⟨by omega, by omega⟩ dX2_isWord_45 rfl (v := (x : Int)) (hx) ?_
    refine wp_iload_n dX2_isWord_48 rfl rfl ?_
    refine wp_iadd dX2_isWord_49 (by omega) ?_
    refine wp_iald 24 rfl rfl ⟨by omega, by omega⟩ ⟨by omega, by omega⟩ dX2_isWord_50 (v := (f (x + 0))) (by rw [show (((x : Int) + 0)).toNat = (x + 0) by omega]; exact congrFun hf (x + 0)) ?_
    refine wp_aload_n dX2_isWord_51 rfl rfl ?_
    refine wp_iload_n dX2_isWord_52 rfl rfl ?_
    refine wp_callV0 (d' := d - 1) cv_RX2_25 1003 rfl [(0, 0)] [(0, (f (x + 0)))] rfl rfl (Or.inr ⟨by decide, by decide, rfl⟩) (by omega) (Nat.le_of_ble_eq_true rfl) dX2_isWord_53 rfl (Nat.le_of_ble_eq_true rfl) (by omega) (loc1 := [(2, 1003), (0, 0)]) rfl ?_
    refine sp_charAt_3 (by omega) (i := 0) (by decide) ?_
    refine wp_icmp_eq (tgt := 61) dX2_isWord_56 (by decide) (fun h56 => ?_) (fun h56 => ?_)
    · refine wp_iinc (loc' := [(2, 23), (2, 1003), (0, 1)]) dX2_isWord_61 rfl (by omega) rfl ?_
      refine wp_goto (tgt := 20) dX2_isWord_64 (by decide) ?_
      have e0 : f (x + 0) = byt 3 0 := h56
      refine wp_iload_n dX2_isWord_20 rfl rfl ?_
      refine wp_aload_n dX2_isWord_21 rfl rfl ?_
      refine wp_callV0 (d' := d - 1) cv_RX2_19 1003 rfl [] [(0, 1)] rfl rfl (Or.inr ⟨by decide, by decide, rfl⟩) (by omega) (Nat.le_of_ble_eq_true rfl) dX2_isWord_22 rfl (Nat.le_of_ble_eq_true rfl) (by omega) (loc1 := [(2, 1003)]) rfl ?_
      refine sp_slen_3 (by omega) ?_
      refine wp_icmp_ge (tgt := 67) dX2_isWord_25 (by decide) (fun h => absurd h (by decide)) (fun _ => ?_)
      refine wp_aload_n dX2_isWord_28 rfl rfl ?_
      refine wp_get 23 rfl fl_RX2_64 rfl ⟨by omega, by omega⟩ dX2_isWord_29 rfl (v := (x : Int)) (hx) ?_
      refine wp_iload_n dX2_isWord_32 rfl rfl ?_
      refine wp_iadd dX2_isWord_33 (by omega) ?_
      refine wp_sipush dX2_isWord_34 (by decide) (by decide) ?_
      refine wp_icmp_ge (tgt := 67) dX2_isWord_37 (by decide) (fun h => absurd h (by omega)) (fun _ => ?_)
      refine wp_aload_n dX2_isWord_40 rfl rfl ?_
      refine wp_get 23 rfl fl_RX2_11 rfl ⟨by omega, by omega⟩ dX2_isWord_41 rfl (v := 24) (qr_23_0 (M := M) hR) ?_
      refine wp_aload_n dX2_isWord_44 rfl rfl ?_
      refine wp_get 23 rfl fl_RX2_64 rfl ⟨by omega, by omega⟩ dX2_isWord_45 rfl (v := (x : Int)) (hx) ?_
      refine wp_iload_n dX2_isWord_48 rfl rfl ?_
      refine wp_iadd dX2_isWord_49 (by omega) ?_
      refine wp_iald 24 rfl rfl ⟨by omega, by omega⟩ ⟨by omega, by omega⟩ dX2_isWord_50 (v := (f (x + 1))) (by rw [show (((x : Int) + 1)).toNat = (x + 1) by omega]; exact congrFun hf (x + 1)) ?_
      refine wp_aload_n dX2_isWord_51 rfl rfl ?_
      refine wp_iload_n dX2_isWord_52 rfl rfl ?_
      refine wp_callV0 (d' := d - 1) cv_RX2_25 1003 rfl [(0, 1)] [(0, (f (x + 1)))] rfl rfl (Or.inr ⟨by decide, by decide, rfl⟩) (by omega) (Nat.le_of_ble_eq_true rfl) dX2_isWord_53 rfl (Nat.le_of_ble_eq_true rfl) (by omega) (loc1 := [(2, 1003), (0, 1)]) rfl ?_
      refine sp_charAt_3 (by omega) (i := 1) (by decide) ?_
      refine wp_icmp_eq (tgt := 61) dX2_isWord_56 (by decide) (fun h56 => ?_) (fun h56 => ?_)
      · refine wp_iinc (loc' := [(2, 23), (2, 1003), (0, 2)]) dX2_isWord_61 rfl (by omega) rfl ?_
        refine wp_goto (tgt := 20) dX2_isWord_64 (by decide) ?_
        have e1 : f (x + 1) = byt 3 1 := h56
        refine wp_iload_n dX2_isWord_20 rfl rfl ?_
        refine wp_aload_n dX2_isWord_21 rfl rfl ?_
        refine wp_callV0 (d' := d - 1) cv_RX2_19 1003 rfl [] [(0, 2)] rfl rfl (Or.inr ⟨by decide, by decide, rfl⟩) (by omega) (Nat.le_of_ble_eq_true rfl) dX2_isWord_22 rfl (Nat.le_of_ble_eq_true rfl) (by omega) (loc1 := [(2, 1003)]) rfl ?_
        refine sp_slen_3 (by omega) ?_
        refine wp_icmp_ge (tgt := 67) dX2_isWord_25 (by decide) (fun h => absurd h (by decide)) (fun _ => ?_)
        refine wp_aload_n dX2_isWord_28 rfl rfl ?_
        refine wp_get 23 rfl fl_RX2_64 rfl ⟨by omega, by omega⟩ dX2_isWord_29 rfl (v := (x : Int)) (hx) ?_
        refine wp_iload_n dX2_isWord_32 rfl rfl ?_
        refine wp_iadd dX2_isWord_33 (by omega) ?_
        refine wp_sipush dX2_isWord_34 (by decide) (by decide) ?_
        refine wp_icmp_ge (tgt := 67) dX2_isWord_37 (by decide) (fun h => absurd h (by omega)) (fun _ => ?_)
        refine wp_aload_n dX2_isWord_40 rfl rfl ?_
        refine wp_get 23 rfl fl_RX2_11 rfl ⟨by omega, by omega⟩ dX2_isWord_41 rfl (v := 24) (qr_23_0 (M := M) hR) ?_
        refine wp_aload_n dX2_isWord_44 rfl rfl ?_
        refine wp_get 23 rfl fl_RX2_64 rfl ⟨by omega, by omega⟩ dX2_isWord_45 rfl (v := (x : Int)) (hx) ?_
        refine wp_iload_n dX2_isWord_48 rfl rfl ?_
        refine wp_iadd dX2_isWord_49 (by omega) ?_
        refine wp_iald 24 rfl rfl ⟨by omega, by omega⟩ ⟨by omega, by omega⟩ dX2_isWord_50 (v := (f (x + 2))) (by rw [show (((x : Int) + 2)).toNat = (x + 2) by omega]; exact congrFun hf (x + 2)) ?_
        refine wp_aload_n dX2_isWord_51 rfl rfl ?_
        refine wp_iload_n dX2_isWord_52 rfl rfl ?_
        refine wp_callV0 (d' := d - 1) cv_RX2_25 1003 rfl [(0, 2)] [(0, (f (x + 2)))] rfl rfl (Or.inr ⟨by decide, by decide, rfl⟩) (by omega) (Nat.le_of_ble_eq_true rfl) dX2_isWord_53 rfl (Nat.le_of_ble_eq_true rfl) (by omega) (loc1 := [(2, 1003), (0, 2)]) rfl ?_
        refine sp_charAt_3 (by omega) (i := 2) (by decide) ?_
        refine wp_icmp_eq (tgt := 61) dX2_isWord_56 (by decide) (fun h56 => ?_) (fun h56 => ?_)
        · refine wp_iinc (loc' := [(2, 23), (2, 1003), (0, 3)]) dX2_isWord_61 rfl (by omega) rfl ?_
          refine wp_goto (tgt := 20) dX2_isWord_64 (by decide) ?_
          have e2 : f (x + 2) = byt 3 2 := h56
          refine wp_iload_n dX2_isWord_20 rfl rfl ?_
          refine wp_aload_n dX2_isWord_21 rfl rfl ?_
          refine wp_callV0 (d' := d - 1) cv_RX2_19 1003 rfl [] [(0, 3)] rfl rfl (Or.inr ⟨by decide, by decide, rfl⟩) (by omega) (Nat.le_of_ble_eq_true rfl) dX2_isWord_22 rfl (Nat.le_of_ble_eq_true rfl) (by omega) (loc1 := [(2, 1003)]) rfl ?_
          refine sp_slen_3 (by omega) ?_
          refine wp_icmp_ge (tgt := 67) dX2_isWord_25 (by decide) (fun h => absurd h (by decide)) (fun _ => ?_)
          refine wp_aload_n dX2_isWord_28 rfl rfl ?_
          refine wp_get 23 rfl fl_RX2_64 rfl ⟨by omega, by omega⟩ dX2_isWord_29 rfl (v := (x : Int)) (hx) ?_
          refine wp_iload_n dX2_isWord_32 rfl rfl ?_
          refine wp_iadd dX2_isWord_33 (by omega) ?_
          refine wp_sipush dX2_isWord_34 (by decide) (by decide) ?_
          refine wp_icmp_ge (tgt := 67) dX2_isWord_37 (by decide) (fun h => absurd h (by omega)) (fun _ => ?_)
          refine wp_aload_n dX2_isWord_40 rfl rfl ?_
          refine wp_get 23 rfl fl_RX2_11 rfl ⟨by omega, by omega⟩ dX2_isWord_41 rfl (v := 24) (qr_23_0 (M := M) hR) ?_
          refine wp_aload_n dX2_isWord_44 rfl rfl ?_
          refine wp_get 23 rfl fl_RX2_64 rfl ⟨by omega, by omega⟩ dX2_isWord_45 rfl (v := (x : Int)) (hx) ?_
          refine wp_iload_n dX2_isWord_48 rfl rfl ?_
          refine wp_iadd dX2_isWord_49 (by omega) ?_
          refine wp_iald 24 rfl rfl ⟨by omega, by omega⟩ ⟨by omega, by omega⟩ dX2_isWord_50 (v := (f (x + 3))) (by rw [show (((x : Int) + 3)).toNat = (x + 3) by omega]; exact congrFun hf (x + 3)) ?_
          refine wp_aload_n dX2_isWord_51 rfl rfl ?_
          refine wp_iload_n dX2_isWord_52 rfl rfl ?_
          refine wp_callV0 (d' := d - 1) cv_RX2_25 1003 rfl [(0, 3)] [(0, (f (x + 3)))] rfl rfl (Or.inr ⟨by decide, by decide, rfl⟩) (by omega) (Nat.le_of_ble_eq_true rfl) dX2_isWord_53 rfl (Nat.le_of_ble_eq_true rfl) (by omega) (loc1 := [(2, 1003), (0, 3)]) rfl ?_
          refine sp_charAt_3 (by omega) (i := 3) (by decide) ?_
          refine wp_icmp_eq (tgt := 61) dX2_isWord_56 (by decide) (fun h56 => ?_) (fun h56 => ?_)
          · refine wp_iinc (loc' := [(2, 23), (2, 1003), (0, 4)]) dX2_isWord_61 rfl (by omega) rfl ?_
            refine wp_goto (tgt := 20) dX2_isWord_64 (by decide) ?_
            have e3 : f (x + 3) = byt 3 3 := h56
            refine wp_iload_n dX2_isWord_20 rfl rfl ?_
            refine wp_aload_n dX2_isWord_21 rfl rfl ?_
            refine wp_callV0 (d' := d - 1) cv_RX2_19 1003 rfl [] [(0, 4)] rfl rfl (Or.inr ⟨by decide, by decide, rfl⟩) (by omega) (Nat.le_of_ble_eq_true rfl) dX2_isWord_22 rfl (Nat.le_of_ble_eq_true rfl) (by omega) (loc1 := [(2, 1003)]) rfl ?_
            refine sp_slen_3 (by omega) ?_
            refine wp_icmp_ge (tgt := 67) dX2_isWord_25 (by decide) (fun _ => ?_) (fun h => absurd h (by decide))
            refine wp_iconst dX2_isWord_67 (by decide) ?_
            refine wp_zret rfl (by omega) dX2_isWord_68 ?_
            refine kt (decide_eq_true ⟨by show y = x + 4; omega, fun i hi => ?_⟩)
            have hi : i < 4 := hi
            match i, hi with
            | 0, _ => exact e0
            | 1, _ => exact e1
            | 2, _ => exact e2
            | 3, _ => exact e3
            | i + 4, hi => exact absurd hi (by omega)
          · refine wp_iconst dX2_isWord_59 (by decide) ?_
            refine wp_zret rfl (by omega) dX2_isWord_60 ?_
            exact kf (decide_eq_false (fun h => h56 (h.2 3 (by decide))))
        · refine wp_iconst dX2_isWord_59 (by decide) ?_
          refine wp_zret rfl (by omega) dX2_isWord_60 ?_
          exact kf (decide_eq_false (fun h => h56 (h.2 2 (by decide))))
      · refine wp_iconst dX2_isWord_59 (by decide) ?_
        refine wp_zret rfl (by omega) dX2_isWord_60 ?_
        exact kf (decide_eq_false (fun h => h56 (h.2 1 (by decide))))
    · refine wp_iconst dX2_isWord_59 (by decide) ?_
      refine wp_zret rfl (by omega) dX2_isWord_60 ?_
      exact kf (decide_eq_false (fun h => h56 (h.2 0 (by decide))))
  · refine wp_iconst dX2_isWord_16 (by decide) ?_
    refine wp_zret rfl (by omega) dX2_isWord_17 ?_
    exact kf (decide_eq_false (fun h => h13 (by have h1 : y = x + 4 := h.1; omega)))
set_option maxRecDepth 20000 in
set_option maxHeartbeats 4000000 in
theorem sp_isWord_4 {l : Launch} {g : Gw} {d n : Nat} {M : Mm} {Q : Option Wd → Mm → Prop} (hn : 60 ≤ n) {f : Nat → Int} {z : Int} (hP : TP M f z) (hd : 5 ≤ d) {x y : Nat} (hx : M 23 3 = (x : Int)) (hy : M 23 4 = (y : Int)) (hxy : x ≤ y) (hyz : (y : Int) ≤ z) (kt : wmB 4 f x y = true → Q (some (0, 1)) M) (kf : wmB 4 f x y = false → Q (some (0, 0)) M) : Wp l g d 0 0 n m_X2_isWord 0 [] [(2, 23), (2, 1004), (9, 0)] M Q := by
  obtain ⟨hR, hf, hz, hz0, hz1⟩ := id hP
  refine wp_aload_n dX2_isWord_0 rfl rfl ?_
  refine wp_callV0 (d' := d - 1) cv_RX2_19 1004 rfl [] [] rfl rfl (Or.inr ⟨by decide, by decide, rfl⟩) (by omega) (Nat.le_of_ble_eq_true rfl) dX2_isWord_1 rfl (Nat.le_of_ble_eq_true rfl) (by omega) (loc1 := [(2, 1004)]) rfl ?_
  refine sp_slen_4 (by omega) ?_
  refine wp_aload_n dX2_isWord_4 rfl rfl ?_
  refine wp_get 23 rfl fl_RX2_42 rfl ⟨by omega, by omega⟩ dX2_isWord_5 rfl (v := (y : Int)) (hy) ?_
  refine wp_aload_n dX2_isWord_8 rfl rfl ?_
  refine wp_get 23 rfl fl_RX2_64 rfl ⟨by omega, by omega⟩ dX2_isWord_9 rfl (v := (x : Int)) (hx) ?_
  refine wp_isub dX2_isWord_12 (by omega) ?_
  refine wp_icmp_eq (tgt := 18) dX2_isWord_13 (by decide) (fun h13 => ?_) (fun h13 => ?_)
  · refine wp_iconst dX2_isWord_18 (by decide) ?_
    refine wp_istore_n (loc' := [(2, 23), (2, 1004), (0, 0)]) dX2_isWord_19 rfl (Nat.le_of_ble_eq_true rfl) rfl ?_
    refine wp_iload_n dX2_isWord_20 rfl rfl ?_
    refine wp_aload_n dX2_isWord_21 rfl rfl ?_
    refine wp_callV0 (d' := d - 1) cv_RX2_19 1004 rfl [] [(0, 0)] rfl rfl (Or.inr ⟨by decide, by decide, rfl⟩) (by omega) (Nat.le_of_ble_eq_true rfl) dX2_isWord_22 rfl (Nat.le_of_ble_eq_true rfl) (by omega) (loc1 := [(2, 1004)]) rfl ?_
    refine sp_slen_4 (by omega) ?_
    refine wp_icmp_ge (tgt := 67) dX2_isWord_25 (by decide) (fun h => absurd h (by decide)) (fun _ => ?_)
    refine wp_aload_n dX2_isWord_28 rfl rfl ?_
    refine wp_get 23 rfl fl_RX2_64 rfl ⟨by omega, by omega⟩ dX2_isWord_29 rfl (v := (x : Int)) (hx) ?_
    refine wp_iload_n dX2_isWord_32 rfl rfl ?_
    refine wp_iadd dX2_isWord_33 (by omega) ?_
    refine wp_sipush dX2_isWord_34 (by decide) (by decide) ?_
    refine wp_icmp_ge (tgt := 67) dX2_isWord_37 (by decide) (fun h => absurd h (by omega)) (fun _ => ?_)
    refine wp_aload_n dX2_isWord_40 rfl rfl ?_
    refine wp_get 23 rfl fl_RX2_11 rfl ⟨by omega, by omega⟩ dX2_isWord_41 rfl (v := 24) (qr_23_0 (M := M) hR) ?_
    refine wp_aload_n dX2_isWord_44 rfl rfl ?_
    refine wp_get 23 rfl fl_RX2_64 rfl ⟨by omega, by omega⟩ dX2_isWord_45 rfl (v := (x : Int)) (hx) ?_
    refine wp_iload_n dX2_isWord_48 rfl rfl ?_
    refine wp_iadd dX2_isWord_49 (by omega) ?_
    refine wp_iald 24 rfl rfl ⟨by omega, by omega⟩ ⟨by omega, by omega⟩ dX2_isWord_50 (v := (f (x + 0))) (by rw [show (((x : Int) + 0)).toNat = (x + 0) by omega]; exact congrFun hf (x + 0)) ?_
    refine wp_aload_n dX2_isWord_51 rfl rfl ?_
    refine wp_iload_n dX2_isWord_52 rfl rfl ?_
    refine wp_callV0 (d' := d - 1) cv_RX2_25 1004 rfl [(0, 0)] [(0, (f (x + 0)))] rfl rfl (Or.inr ⟨by decide, by decide, rfl⟩) (by omega) (Nat.le_of_ble_eq_true rfl) dX2_isWord_53 rfl (Nat.le_of_ble_eq_true rfl) (by omega) (loc1 := [(2, 1004), (0, 0)]) rfl ?_
    refine sp_charAt_4 (by omega) (i := 0) (by decide) ?_
    refine wp_icmp_eq (tgt := 61) dX2_isWord_56 (by decide) (fun h56 => ?_) (fun h56 => ?_)
    · refine wp_iinc (loc' := [(2, 23), (2, 1004), (0, 1)]) dX2_isWord_61 rfl (by omega) rfl ?_
      refine wp_goto (tgt := 20) dX2_isWord_64 (by decide) ?_
      have e0 : f (x + 0) = byt 4 0 := h56
      refine wp_iload_n dX2_isWord_20 rfl rfl ?_
      refine wp_aload_n dX2_isWord_21 rfl rfl ?_
      refine wp_callV0 (d' := d - 1) cv_RX2_19 1004 rfl [] [(0, 1)] rfl rfl (Or.inr ⟨by decide, by decide, rfl⟩) (by omega) (Nat.le_of_ble_eq_true rfl) dX2_isWord_22 rfl (Nat.le_of_ble_eq_true rfl) (by omega) (loc1 := [(2, 1004)]) rfl ?_
      refine sp_slen_4 (by omega) ?_
      refine wp_icmp_ge (tgt := 67) dX2_isWord_25 (by decide) (fun h => absurd h (by decide)) (fun _ => ?_)
      refine wp_aload_n dX2_isWord_28 rfl rfl ?_
      refine wp_get 23 rfl fl_RX2_64 rfl ⟨by omega, by omega⟩ dX2_isWord_29 rfl (v := (x : Int)) (hx) ?_
      refine wp_iload_n dX2_isWord_32 rfl rfl ?_
      refine wp_iadd dX2_isWord_33 (by omega) ?_
      refine wp_sipush dX2_isWord_34 (by decide) (by decide) ?_
      refine wp_icmp_ge (tgt := 67) dX2_isWord_37 (by decide) (fun h => absurd h (by omega)) (fun _ => ?_)
      refine wp_aload_n dX2_isWord_40 rfl rfl ?_
      refine wp_get 23 rfl fl_RX2_11 rfl ⟨by omega, by omega⟩ dX2_isWord_41 rfl (v := 24) (qr_23_0 (M := M) hR) ?_
      refine wp_aload_n dX2_isWord_44 rfl rfl ?_
      refine wp_get 23 rfl fl_RX2_64 rfl ⟨by omega, by omega⟩ dX2_isWord_45 rfl (v := (x : Int)) (hx) ?_
      refine wp_iload_n dX2_isWord_48 rfl rfl ?_
      refine wp_iadd dX2_isWord_49 (by omega) ?_
      refine wp_iald 24 rfl rfl ⟨by omega, by omega⟩ ⟨by omega, by omega⟩ dX2_isWord_50 (v := (f (x + 1))) (by rw [show (((x : Int) + 1)).toNat = (x + 1) by omega]; exact congrFun hf (x + 1)) ?_
      refine wp_aload_n dX2_isWord_51 rfl rfl ?_
      refine wp_iload_n dX2_isWord_52 rfl rfl ?_
      refine wp_callV0 (d' := d - 1) cv_RX2_25 1004 rfl [(0, 1)] [(0, (f (x + 1)))] rfl rfl (Or.inr ⟨by decide, by decide, rfl⟩) (by omega) (Nat.le_of_ble_eq_true rfl) dX2_isWord_53 rfl (Nat.le_of_ble_eq_true rfl) (by omega) (loc1 := [(2, 1004), (0, 1)]) rfl ?_
      refine sp_charAt_4 (by omega) (i := 1) (by decide) ?_
      refine wp_icmp_eq (tgt := 61) dX2_isWord_56 (by decide) (fun h56 => ?_) (fun h56 => ?_)
      · refine wp_iinc (loc' := [(2, 23), (2, 1004), (0, 2)]) dX2_isWord_61 rfl (by omega) rfl ?_
        refine wp_goto (tgt := 20) dX2_isWord_64 (by decide) ?_
        have e1 : f (x + 1) = byt 4 1 := h56
        refine wp_iload_n dX2_isWord_20 rfl rfl ?_
        refine wp_aload_n dX2_isWord_21 rfl rfl ?_
        refine wp_callV0 (d' := d - 1) cv_RX2_19 1004 rfl [] [(0, 2)] rfl rfl (Or.inr ⟨by decide, by decide, rfl⟩) (by omega) (Nat.le_of_ble_eq_true rfl) dX2_isWord_22 rfl (Nat.le_of_ble_eq_true rfl) (by omega) (loc1 := [(2, 1004)]) rfl ?_
        refine sp_slen_4 (by omega) ?_
        refine wp_icmp_ge (tgt := 67) dX2_isWord_25 (by decide) (fun _ => ?_) (fun h => absurd h (by decide))
        refine wp_iconst dX2_isWord_67 (by decide) ?_
        refine wp_zret rfl (by omega) dX2_isWord_68 ?_
        refine kt (decide_eq_true ⟨by show y = x + 2; omega, fun i hi => ?_⟩)
        have hi : i < 2 := hi
        match i, hi with
        | 0, _ => exact e0
        | 1, _ => exact e1
        | i + 2, hi => exact absurd hi (by omega)
      · refine wp_iconst dX2_isWord_59 (by decide) ?_
        refine wp_zret rfl (by omega) dX2_isWord_60 ?_
        exact kf (decide_eq_false (fun h => h56 (h.2 1 (by decide))))
    · refine wp_iconst dX2_isWord_59 (by decide) ?_
      refine wp_zret rfl (by omega) dX2_isWord_60 ?_
      exact kf (decide_eq_false (fun h => h56 (h.2 0 (by decide))))
  · refine wp_iconst dX2_isWord_16 (by decide) ?_
    refine wp_zret rfl (by omega) dX2_isWord_17 ?_
    exact kf (decide_eq_false (fun h => h13 (by have h1 : y = x + 2 := h.1; omega)))
set_option maxRecDepth 20000 in
set_option maxHeartbeats 4000000 in
theorem sp_isWord_5 {l : Launch} {g : Gw} {d n : Nat} {M : Mm} {Q : Option Wd → Mm → Prop} (hn : 60 ≤ n) {f : Nat → Int} {z : Int} (hP : TP M f z) (hd : 5 ≤ d) {x y : Nat} (hx : M 23 3 = (x : Int)) (hy : M 23 4 = (y : Int)) (hxy : x ≤ y) (hyz : (y : Int) ≤ z) (kt : wmB 5 f x y = true → Q (some (0, 1)) M) (kf : wmB 5 f x y = false → Q (some (0, 0)) M) : Wp l g d 0 0 n m_X2_isWord 0 [] [(2, 23), (2, 1005), (9, 0)] M Q := by
  obtain ⟨hR, hf, hz, hz0, hz1⟩ := id hP
  refine wp_aload_n dX2_isWord_0 rfl rfl ?_
  refine wp_callV0 (d' := d - 1) cv_RX2_19 1005 rfl [] [] rfl rfl (Or.inr ⟨by decide, by decide, rfl⟩) (by omega) (Nat.le_of_ble_eq_true rfl) dX2_isWord_1 rfl (Nat.le_of_ble_eq_true rfl) (by omega) (loc1 := [(2, 1005)]) rfl ?_
  refine sp_slen_5 (by omega) ?_
  refine wp_aload_n dX2_isWord_4 rfl rfl ?_
  refine wp_get 23 rfl fl_RX2_42 rfl ⟨by omega, by omega⟩ dX2_isWord_5 rfl (v := (y : Int)) (hy) ?_
  refine wp_aload_n dX2_isWord_8 rfl rfl ?_
  refine wp_get 23 rfl fl_RX2_64 rfl ⟨by omega, by omega⟩ dX2_isWord_9 rfl (v := (x : Int)) (hx) ?_
  refine wp_isub dX2_isWord_12 (by omega) ?_
  refine wp_icmp_eq (tgt := 18) dX2_isWord_13 (by decide) (fun h13 => ?_) (fun h13 => ?_)
  · refine wp_iconst dX2_isWord_18 (by decide) ?_
    refine wp_istore_n (loc' := [(2, 23), (2, 1005), (0, 0)]) dX2_isWord_19 rfl (Nat.le_of_ble_eq_true rfl) rfl ?_
    refine wp_iload_n dX2_isWord_20 rfl rfl ?_
    refine wp_aload_n dX2_isWord_21 rfl rfl ?_
    refine wp_callV0 (d' := d - 1) cv_RX2_19 1005 rfl [] [(0, 0)] rfl rfl (Or.inr ⟨by decide, by decide, rfl⟩) (by omega) (Nat.le_of_ble_eq_true rfl) dX2_isWord_22 rfl (Nat.le_of_ble_eq_true rfl) (by omega) (loc1 := [(2, 1005)]) rfl ?_
    refine sp_slen_5 (by omega) ?_
    refine wp_icmp_ge (tgt := 67) dX2_isWord_25 (by decide) (fun h => absurd h (by decide)) (fun _ => ?_)
    refine wp_aload_n dX2_isWord_28 rfl rfl ?_
    refine wp_get 23 rfl fl_RX2_64 rfl ⟨by omega, by omega⟩ dX2_isWord_29 rfl (v := (x : Int)) (hx) ?_
    refine wp_iload_n dX2_isWord_32 rfl rfl ?_
    refine wp_iadd dX2_isWord_33 (by omega) ?_
    refine wp_sipush dX2_isWord_34 (by decide) (by decide) ?_
    refine wp_icmp_ge (tgt := 67) dX2_isWord_37 (by decide) (fun h => absurd h (by omega)) (fun _ => ?_)
    refine wp_aload_n dX2_isWord_40 rfl rfl ?_
    refine wp_get 23 rfl fl_RX2_11 rfl ⟨by omega, by omega⟩ dX2_isWord_41 rfl (v := 24) (qr_23_0 (M := M) hR) ?_
    refine wp_aload_n dX2_isWord_44 rfl rfl ?_
    refine wp_get 23 rfl fl_RX2_64 rfl ⟨by omega, by omega⟩ dX2_isWord_45 rfl (v := (x : Int)) (hx) ?_
    refine wp_iload_n dX2_isWord_48 rfl rfl ?_
    refine wp_iadd dX2_isWord_49 (by omega) ?_
    refine wp_iald 24 rfl rfl ⟨by omega, by omega⟩ ⟨by omega, by omega⟩ dX2_isWord_50 (v := (f (x + 0))) (by rw [show (((x : Int) + 0)).toNat = (x + 0) by omega]; exact congrFun hf (x + 0)) ?_
    refine wp_aload_n dX2_isWord_51 rfl rfl ?_
    refine wp_iload_n dX2_isWord_52 rfl rfl ?_
    refine wp_callV0 (d' := d - 1) cv_RX2_25 1005 rfl [(0, 0)] [(0, (f (x + 0)))] rfl rfl (Or.inr ⟨by decide, by decide, rfl⟩) (by omega) (Nat.le_of_ble_eq_true rfl) dX2_isWord_53 rfl (Nat.le_of_ble_eq_true rfl) (by omega) (loc1 := [(2, 1005), (0, 0)]) rfl ?_
    refine sp_charAt_5 (by omega) (i := 0) (by decide) ?_
    refine wp_icmp_eq (tgt := 61) dX2_isWord_56 (by decide) (fun h56 => ?_) (fun h56 => ?_)
    · refine wp_iinc (loc' := [(2, 23), (2, 1005), (0, 1)]) dX2_isWord_61 rfl (by omega) rfl ?_
      refine wp_goto (tgt := 20) dX2_isWord_64 (by decide) ?_
      have e0 : f (x + 0) = byt 5 0 := h56
      refine wp_iload_n dX2_isWord_20 rfl rfl ?_
      refine wp_aload_n dX2_isWord_21 rfl rfl ?_
      refine wp_callV0 (d' := d - 1) cv_RX2_19 1005 rfl [] [(0, 1)] rfl rfl (Or.inr ⟨by decide, by decide, rfl⟩) (by omega) (Nat.le_of_ble_eq_true rfl) dX2_isWord_22 rfl (Nat.le_of_ble_eq_true rfl) (by omega) (loc1 := [(2, 1005)]) rfl ?_
      refine sp_slen_5 (by omega) ?_
      refine wp_icmp_ge (tgt := 67) dX2_isWord_25 (by decide) (fun h => absurd h (by decide)) (fun _ => ?_)
      refine wp_aload_n dX2_isWord_28 rfl rfl ?_
      refine wp_get 23 rfl fl_RX2_64 rfl ⟨by omega, by omega⟩ dX2_isWord_29 rfl (v := (x : Int)) (hx) ?_
      refine wp_iload_n dX2_isWord_32 rfl rfl ?_
      refine wp_iadd dX2_isWord_33 (by omega) ?_
      refine wp_sipush dX2_isWord_34 (by decide) (by decide) ?_
      refine wp_icmp_ge (tgt := 67) dX2_isWord_37 (by decide) (fun h => absurd h (by omega)) (fun _ => ?_)
      refine wp_aload_n dX2_isWord_40 rfl rfl ?_
      refine wp_get 23 rfl fl_RX2_11 rfl ⟨by omega, by omega⟩ dX2_isWord_41 rfl (v := 24) (qr_23_0 (M := M) hR) ?_
      refine wp_aload_n dX2_isWord_44 rfl rfl ?_
      refine wp_get 23 rfl fl_RX2_64 rfl ⟨by omega, by omega⟩ dX2_isWord_45 rfl (v := (x : Int)) (hx) ?_
      refine wp_iload_n dX2_isWord_48 rfl rfl ?_
      refine wp_iadd dX2_isWord_49 (by omega) ?_
      refine wp_iald 24 rfl rfl ⟨by omega, by omega⟩ ⟨by omega, by omega⟩ dX2_isWord_50 (v := (f (x + 1))) (by rw [show (((x : Int) + 1)).toNat = (x + 1) by omega]; exact congrFun hf (x + 1)) ?_
      refine wp_aload_n dX2_isWord_51 rfl rfl ?_
      refine wp_iload_n dX2_isWord_52 rfl rfl ?_
      refine wp_callV0 (d' := d - 1) cv_RX2_25 1005 rfl [(0, 1)] [(0, (f (x + 1)))] rfl rfl (Or.inr ⟨by decide, by decide, rfl⟩) (by omega) (Nat.le_of_ble_eq_true rfl) dX2_isWord_53 rfl (Nat.le_of_ble_eq_true rfl) (by omega) (loc1 := [(2, 1005), (0, 1)]) rfl ?_
      refine sp_charAt_5 (by omega) (i := 1) (by decide) ?_
      refine wp_icmp_eq (tgt := 61) dX2_isWord_56 (by decide) (fun h56 => ?_) (fun h56 => ?_)
      · refine wp_iinc (loc' := [(2, 23), (2, 1005), (0, 2)]) dX2_isWord_61 rfl (by omega) rfl ?_
        refine wp_goto (tgt := 20) dX2_isWord_64 (by decide) ?_
        have e1 : f (x + 1) = byt 5 1 := h56
        refine wp_iload_n dX2_isWord_20 rfl rfl ?_
        refine wp_aload_n dX2_isWord_21 rfl rfl ?_
        refine wp_callV0 (d' := d - 1) cv_RX2_19 1005 rfl [] [(0, 2)] rfl rfl (Or.inr ⟨by decide, by decide, rfl⟩) (by omega) (Nat.le_of_ble_eq_true rfl) dX2_isWord_22 rfl (Nat.le_of_ble_eq_true rfl) (by omega) (loc1 := [(2, 1005)]) rfl ?_
        refine sp_slen_5 (by omega) ?_
        refine wp_icmp_ge (tgt := 67) dX2_isWord_25 (by decide) (fun h => absurd h (by decide)) (fun _ => ?_)
        refine wp_aload_n dX2_isWord_28 rfl rfl ?_
        refine wp_get 23 rfl fl_RX2_64 rfl ⟨by omega, by omega⟩ dX2_isWord_29 rfl (v := (x : Int)) (hx) ?_
        refine wp_iload_n dX2_isWord_32 rfl rfl ?_
        refine wp_iadd dX2_isWord_33 (by omega) ?_
        refine wp_sipush dX2_isWord_34 (by decide) (by decide) ?_
        refine wp_icmp_ge (tgt := 67) dX2_isWord_37 (by decide) (fun h => absurd h (by omega)) (fun _ => ?_)
        refine wp_aload_n dX2_isWord_40 rfl rfl ?_
        refine wp_get 23 rfl fl_RX2_11 rfl ⟨by omega, by omega⟩ dX2_isWord_41 rfl (v := 24) (qr_23_0 (M := M) hR) ?_
        refine wp_aload_n dX2_isWord_44 rfl rfl ?_
        refine wp_get 23 rfl fl_RX2_64 rfl ⟨by omega, by omega⟩ dX2_isWord_45 rfl (v := (x : Int)) (hx) ?_
        refine wp_iload_n dX2_isWord_48 rfl rfl ?_
        refine wp_iadd dX2_isWord_49 (by omega) ?_
        refine wp_iald 24 rfl rfl ⟨by omega, by omega⟩ ⟨by omega, by omega⟩ dX2_isWord_50 (v := (f (x + 2))) (by rw [show (((x : Int) + 2)).toNat = (x + 2) by omega]; exact congrFun hf (x + 2)) ?_
        refine wp_aload_n dX2_isWord_51 rfl rfl ?_
        refine wp_iload_n dX2_isWord_52 rfl rfl ?_
        refine wp_callV0 (d' := d - 1) cv_RX2_25 1005 rfl [(0, 2)] [(0, (f (x + 2)))] rfl rfl (Or.inr ⟨by decide, by decide, rfl⟩) (by omega) (Nat.le_of_ble_eq_true rfl) dX2_isWord_53 rfl (Nat.le_of_ble_eq_true rfl) (by omega) (loc1 := [(2, 1005), (0, 2)]) rfl ?_
        refine sp_charAt_5 (by omega) (i := 2) (by decide) ?_
        refine wp_icmp_eq (tgt := 61) dX2_isWord_56 (by decide) (fun h56 => ?_) (fun h56 => ?_)
        · refine wp_iinc (loc' := [(2, 23), (2, 1005), (0, 3)]) dX2_isWord_61 rfl (by omega) rfl ?_
          refine wp_goto (tgt := 20) dX2_isWord_64 (by decide) ?_
          have e2 : f (x + 2) = byt 5 2 := h56
          refine wp_iload_n dX2_isWord_20 rfl rfl ?_
          refine wp_aload_n dX2_isWord_21 rfl rfl ?_
          refine wp_callV0 (d' := d - 1) cv_RX2_19 1005 rfl [] [(0, 3)] rfl rfl (Or.inr ⟨by decide, by decide, rfl⟩) (by omega) (Nat.le_of_ble_eq_true rfl) dX2_isWord_22 rfl (Nat.le_of_ble_eq_true rfl) (by omega) (loc1 := [(2, 1005)]) rfl ?_
          refine sp_slen_5 (by omega) ?_
          refine wp_icmp_ge (tgt := 67) dX2_isWord_25 (by decide) (fun _ => ?_) (fun h => absurd h (by decide))
          refine wp_iconst dX2_isWord_67 (by decide) ?_
          refine wp_zret rfl (by omega) dX2_isWord_68 ?_
          refine kt (decide_eq_true ⟨by show y = x + 3; omega, fun i hi => ?_⟩)
          have hi : i < 3 := hi
          match i, hi with
          | 0, _ => exact e0
          | 1, _ => exact e1
          | 2, _ => exact e2
          | i + 3, hi => exact absurd hi (by omega)
        · refine wp_iconst dX2_isWord_59 (by decide) ?_
          refine wp_zret rfl (by omega) dX2_isWord_60 ?_
          exact kf (decide_eq_false (fun h => h56 (h.2 2 (by decide))))
      · refine wp_iconst dX2_isWord_59 (by decide) ?_
        refine wp_zret rfl (by omega) dX2_isWord_60 ?_
        exact kf (decide_eq_false (fun h => h56 (h.2 1 (by decide))))
    · refine wp_iconst dX2_isWord_59 (by decide) ?_
      refine wp_zret rfl (by omega) dX2_isWord_60 ?_
      exact kf (decide_eq_false (fun h => h56 (h.2 0 (by decide))))
  · refine wp_iconst dX2_isWord_16 (by decide) ?_
    refine wp_zret rfl (by omega) dX2_isWord_17 ?_
    exact kf (decide_eq_false (fun h => h13 (by have h1 : y = x + 3 := h.1; omega)))
set_option maxRecDepth 20000 in
set_option maxHeartbeats 4000000 in
theorem sp_isWord_6 {l : Launch} {g : Gw} {d n : Nat} {M : Mm} {Q : Option Wd → Mm → Prop} (hn : 60 ≤ n) {f : Nat → Int} {z : Int} (hP : TP M f z) (hd : 5 ≤ d) {x y : Nat} (hx : M 23 3 = (x : Int)) (hy : M 23 4 = (y : Int)) (hxy : x ≤ y) (hyz : (y : Int) ≤ z) (kt : wmB 6 f x y = true → Q (some (0, 1)) M) (kf : wmB 6 f x y = false → Q (some (0, 0)) M) : Wp l g d 0 0 n m_X2_isWord 0 [] [(2, 23), (2, 1006), (9, 0)] M Q := by
  obtain ⟨hR, hf, hz, hz0, hz1⟩ := id hP
  refine wp_aload_n dX2_isWord_0 rfl rfl ?_
  refine wp_callV0 (d' := d - 1) cv_RX2_19 1006 rfl [] [] rfl rfl (Or.inr ⟨by decide, by decide, rfl⟩) (by omega) (Nat.le_of_ble_eq_true rfl) dX2_isWord_1 rfl (Nat.le_of_ble_eq_true rfl) (by omega) (loc1 := [(2, 1006)]) rfl ?_
  refine sp_slen_6 (by omega) ?_
  refine wp_aload_n dX2_isWord_4 rfl rfl ?_
  refine wp_get 23 rfl fl_RX2_42 rfl ⟨by omega, by omega⟩ dX2_isWord_5 rfl (v := (y : Int)) (hy) ?_
  refine wp_aload_n dX2_isWord_8 rfl rfl ?_
  refine wp_get 23 rfl fl_RX2_64 rfl ⟨by omega, by omega⟩ dX2_isWord_9 rfl (v := (x : Int)) (hx) ?_
  refine wp_isub dX2_isWord_12 (by omega) ?_
  refine wp_icmp_eq (tgt := 18) dX2_isWord_13 (by decide) (fun h13 => ?_) (fun h13 => ?_)
  · refine wp_iconst dX2_isWord_18 (by decide) ?_
    refine wp_istore_n (loc' := [(2, 23), (2, 1006), (0, 0)]) dX2_isWord_19 rfl (Nat.le_of_ble_eq_true rfl) rfl ?_
    refine wp_iload_n dX2_isWord_20 rfl rfl ?_
    refine wp_aload_n dX2_isWord_21 rfl rfl ?_
    refine wp_callV0 (d' := d - 1) cv_RX2_19 1006 rfl [] [(0, 0)] rfl rfl (Or.inr ⟨by decide, by decide, rfl⟩) (by omega) (Nat.le_of_ble_eq_true rfl) dX2_isWord_22 rfl (Nat.le_of_ble_eq_true rfl) (by omega) (loc1 := [(2, 1006)]) rfl ?_
    refine sp_slen_6 (by omega) ?_
    refine wp_icmp_ge (tgt := 67) dX2_isWord_25 (by decide) (fun h => absurd h (by decide)) (fun _ => ?_)
    refine wp_aload_n dX2_isWord_28 rfl rfl ?_
    refine wp_get 23 rfl fl_RX2_64 rfl ⟨by omega, by omega⟩ dX2_isWord_29 rfl (v := (x : Int)) (hx) ?_
    refine wp_iload_n dX2_isWord_32 rfl rfl ?_
    refine wp_iadd dX2_isWord_33 (by omega) ?_
    refine wp_sipush dX2_isWord_34 (by decide) (by decide) ?_
    refine wp_icmp_ge (tgt := 67) dX2_isWord_37 (by decide) (fun h => absurd h (by omega)) (fun _ => ?_)
    refine wp_aload_n dX2_isWord_40 rfl rfl ?_
    refine wp_get 23 rfl fl_RX2_11 rfl ⟨by omega, by omega⟩ dX2_isWord_41 rfl (v := 24) (qr_23_0 (M := M) hR) ?_
    refine wp_aload_n dX2_isWord_44 rfl rfl ?_
    refine wp_get 23 rfl fl_RX2_64 rfl ⟨by omega, by omega⟩ dX2_isWord_45 rfl (v := (x : Int)) (hx) ?_
    refine wp_iload_n dX2_isWord_48 rfl rfl ?_
    refine wp_iadd dX2_isWord_49 (by omega) ?_
    refine wp_iald 24 rfl rfl ⟨by omega, by omega⟩ ⟨by omega, by omega⟩ dX2_isWord_50 (v := (f (x + 0))) (by rw [show (((x : Int) + 0)).toNat = (x + 0) by omega]; exact congrFun hf (x + 0)) ?_
    refine wp_aload_n dX2_isWord_51 rfl rfl ?_
    refine wp_iload_n dX2_isWord_52 rfl rfl ?_
    refine wp_callV0 (d' := d - 1) cv_RX2_25 1006 rfl [(0, 0)] [(0, (f (x + 0)))] rfl rfl (Or.inr ⟨by decide, by decide, rfl⟩) (by omega) (Nat.le_of_ble_eq_true rfl) dX2_isWord_53 rfl (Nat.le_of_ble_eq_true rfl) (by omega) (loc1 := [(2, 1006), (0, 0)]) rfl ?_
    refine sp_charAt_6 (by omega) (i := 0) (by decide) ?_
    refine wp_icmp_eq (tgt := 61) dX2_isWord_56 (by decide) (fun h56 => ?_) (fun h56 => ?_)
    · refine wp_iinc (loc' := [(2, 23), (2, 1006), (0, 1)]) dX2_isWord_61 rfl (by omega) rfl ?_
      refine wp_goto (tgt := 20) dX2_isWord_64 (by decide) ?_
      have e0 : f (x + 0) = byt 6 0 := h56
      refine wp_iload_n dX2_isWord_20 rfl rfl ?_
      refine wp_aload_n dX2_isWord_21 rfl rfl ?_
      refine wp_callV0 (d' := d - 1) cv_RX2_19 1006 rfl [] [(0, 1)] rfl rfl (Or.inr ⟨by decide, by decide, rfl⟩) (by omega) (Nat.le_of_ble_eq_true rfl) dX2_isWord_22 rfl (Nat.le_of_ble_eq_true rfl) (by omega) (loc1 := [(2, 1006)]) rfl ?_
      refine sp_slen_6 (by omega) ?_
      refine wp_icmp_ge (tgt := 67) dX2_isWord_25 (by decide) (fun h => absurd h (by decide)) (fun _ => ?_)
      refine wp_aload_n dX2_isWord_28 rfl rfl ?_
      refine wp_get 23 rfl fl_RX2_64 rfl ⟨by omega, by omega⟩ dX2_isWord_29 rfl (v := (x : Int)) (hx) ?_
      refine wp_iload_n dX2_isWord_32 rfl rfl ?_
      refine wp_iadd dX2_isWord_33 (by omega) ?_
      refine wp_sipush dX2_isWord_34 (by decide) (by decide) ?_
      refine wp_icmp_ge (tgt := 67) dX2_isWord_37 (by decide) (fun h => absurd h (by omega)) (fun _ => ?_)
      refine wp_aload_n dX2_isWord_40 rfl rfl ?_
      refine wp_get 23 rfl fl_RX2_11 rfl ⟨by omega, by omega⟩ dX2_isWord_41 rfl (v := 24) (qr_23_0 (M := M) hR) ?_
      refine wp_aload_n dX2_isWord_44 rfl rfl ?_
      refine wp_get 23 rfl fl_RX2_64 rfl ⟨by omega, by omega⟩ dX2_isWord_45 rfl (v := (x : Int)) (hx) ?_
      refine wp_iload_n dX2_isWord_48 rfl rfl ?_
      refine wp_iadd dX2_isWord_49 (by omega) ?_
      refine wp_iald 24 rfl rfl ⟨by omega, by omega⟩ ⟨by omega, by omega⟩ dX2_isWord_50 (v := (f (x + 1))) (by rw [show (((x : Int) + 1)).toNat = (x + 1) by omega]; exact congrFun hf (x + 1)) ?_
      refine wp_aload_n dX2_isWord_51 rfl rfl ?_
      refine wp_iload_n dX2_isWord_52 rfl rfl ?_
      refine wp_callV0 (d' := d - 1) cv_RX2_25 1006 rfl [(0, 1)] [(0, (f (x + 1)))] rfl rfl (Or.inr ⟨by decide, by decide, rfl⟩) (by omega) (Nat.le_of_ble_eq_true rfl) dX2_isWord_53 rfl (Nat.le_of_ble_eq_true rfl) (by omega) (loc1 := [(2, 1006), (0, 1)]) rfl ?_
      refine sp_charAt_6 (by omega) (i := 1) (by decide) ?_
      refine wp_icmp_eq (tgt := 61) dX2_isWord_56 (by decide) (fun h56 => ?_) (fun h56 => ?_)
      · refine wp_iinc (loc' := [(2, 23), (2, 1006), (0, 2)]) dX2_isWord_61 rfl (by omega) rfl ?_
        refine wp_goto (tgt := 20) dX2_isWord_64 (by decide) ?_
        have e1 : f (x + 1) = byt 6 1 := h56
        refine wp_iload_n dX2_isWord_20 rfl rfl ?_
        refine wp_aload_n dX2_isWord_21 rfl rfl ?_
        refine wp_callV0 (d' := d - 1) cv_RX2_19 1006 rfl [] [(0, 2)] rfl rfl (Or.inr ⟨by decide, by decide, rfl⟩) (by omega) (Nat.le_of_ble_eq_true rfl) dX2_isWord_22 rfl (Nat.le_of_ble_eq_true rfl) (by omega) (loc1 := [(2, 1006)]) rfl ?_
        refine sp_slen_6 (by omega) ?_
        refine wp_icmp_ge (tgt := 67) dX2_isWord_25 (by decide) (fun h => absurd h (by decide)) (fun _ => ?_)
        refine wp_aload_n dX2_isWord_28 rfl rfl ?_
        refine wp_get 23 rfl fl_RX2_64 rfl ⟨by omega, by omega⟩ dX2_isWord_29 rfl (v := (x : Int)) (hx) ?_
        refine wp_iload_n dX2_isWord_32 rfl rfl ?_
        refine wp_iadd dX2_isWord_33 (by omega) ?_
        refine wp_sipush dX2_isWord_34 (by decide) (by decide) ?_
        refine wp_icmp_ge (tgt := 67) dX2_isWord_37 (by decide) (fun h => absurd h (by omega)) (fun _ => ?_)
        refine wp_aload_n dX2_isWord_40 rfl rfl ?_
        refine wp_get 23 rfl fl_RX2_11 rfl ⟨by omega, by omega⟩ dX2_isWord_41 rfl (v := 24) (qr_23_0 (M := M) hR) ?_
        refine wp_aload_n dX2_isWord_44 rfl rfl ?_
        refine wp_get 23 rfl fl_RX2_64 rfl ⟨by omega, by omega⟩ dX2_isWord_45 rfl (v := (x : Int)) (hx) ?_
        refine wp_iload_n dX2_isWord_48 rfl rfl ?_
        refine wp_iadd dX2_isWord_49 (by omega) ?_
        refine wp_iald 24 rfl rfl ⟨by omega, by omega⟩ ⟨by omega, by omega⟩ dX2_isWord_50 (v := (f (x + 2))) (by rw [show (((x : Int) + 2)).toNat = (x + 2) by omega]; exact congrFun hf (x + 2)) ?_
        refine wp_aload_n dX2_isWord_51 rfl rfl ?_
        refine wp_iload_n dX2_isWord_52 rfl rfl ?_
        refine wp_callV0 (d' := d - 1) cv_RX2_25 1006 rfl [(0, 2)] [(0, (f (x + 2)))] rfl rfl (Or.inr ⟨by decide, by decide, rfl⟩) (by omega) (Nat.le_of_ble_eq_true rfl) dX2_isWord_53 rfl (Nat.le_of_ble_eq_true rfl) (by omega) (loc1 := [(2, 1006), (0, 2)]) rfl ?_
        refine sp_charAt_6 (by omega) (i := 2) (by decide) ?_
        refine wp_icmp_eq (tgt := 61) dX2_isWord_56 (by decide) (fun h56 => ?_) (fun h56 => ?_)
        · refine wp_iinc (loc' := [(2, 23), (2, 1006), (0, 3)]) dX2_isWord_61 rfl (by omega) rfl ?_
          refine wp_goto (tgt := 20) dX2_isWord_64 (by decide) ?_
          have e2 : f (x + 2) = byt 6 2 := h56
          refine wp_iload_n dX2_isWord_20 rfl rfl ?_
          refine wp_aload_n dX2_isWord_21 rfl rfl ?_
          refine wp_callV0 (d' := d - 1) cv_RX2_19 1006 rfl [] [(0, 3)] rfl rfl (Or.inr ⟨by decide, by decide, rfl⟩) (by omega) (Nat.le_of_ble_eq_true rfl) dX2_isWord_22 rfl (Nat.le_of_ble_eq_true rfl) (by omega) (loc1 := [(2, 1006)]) rfl ?_
          refine sp_slen_6 (by omega) ?_
          refine wp_icmp_ge (tgt := 67) dX2_isWord_25 (by decide) (fun _ => ?_) (fun h => absurd h (by decide))
          refine wp_iconst dX2_isWord_67 (by decide) ?_
          refine wp_zret rfl (by omega) dX2_isWord_68 ?_
          refine kt (decide_eq_true ⟨by show y = x + 3; omega, fun i hi => ?_⟩)
          have hi : i < 3 := hi
          match i, hi with
          | 0, _ => exact e0
          | 1, _ => exact e1
          | 2, _ => exact e2
          | i + 3, hi => exact absurd hi (by omega)
        · refine wp_iconst dX2_isWord_59 (by decide) ?_
          refine wp_zret rfl (by omega) dX2_isWord_60 ?_
          exact kf (decide_eq_false (fun h => h56 (h.2 2 (by decide))))
      · refine wp_iconst dX2_isWord_59 (by decide) ?_
        refine wp_zret rfl (by omega) dX2_isWord_60 ?_
        exact kf (decide_eq_false (fun h => h56 (h.2 1 (by decide))))
    · refine wp_iconst dX2_isWord_59 (by decide) ?_
      refine wp_zret rfl (by omega) dX2_isWord_60 ?_
      exact kf (decide_eq_false (fun h => h56 (h.2 0 (by decide))))
  · refine wp_iconst dX2_isWord_16 (by decide) ?_
    refine wp_zret rfl (by omega) dX2_isWord_17 ?_
    exact kf (decide_eq_false (fun h => h13 (by have h1 : y = x + 3 := h.1; omega)))
set_option maxRecDepth 20000 in
set_option maxHeartbeats 4000000 in
theorem sp_isWord_7 {l : Launch} {g : Gw} {d n : Nat} {M : Mm} {Q : Option Wd → Mm → Prop} (hn : 60 ≤ n) {f : Nat → Int} {z : Int} (hP : TP M f z) (hd : 5 ≤ d) {x y : Nat} (hx : M 23 3 = (x : Int)) (hy : M 23 4 = (y : Int)) (hxy : x ≤ y) (hyz : (y : Int) ≤ z) (kt : wmB 7 f x y = true → Q (some (0, 1)) M) (kf : wmB 7 f x y = false → Q (some (0, 0)) M) : Wp l g d 0 0 n m_X2_isWord 0 [] [(2, 23), (2, 1007), (9, 0)] M Q := by
  obtain ⟨hR, hf, hz, hz0, hz1⟩ := id hP
  refine wp_aload_n dX2_isWord_0 rfl rfl ?_
  refine wp_callV0 (d' := d - 1) cv_RX2_19 1007 rfl [] [] rfl rfl (Or.inr ⟨by decide, by decide, rfl⟩) (by omega) (Nat.le_of_ble_eq_true rfl) dX2_isWord_1 rfl (Nat.le_of_ble_eq_true rfl) (by omega) (loc1 := [(2, 1007)]) rfl ?_
  refine sp_slen_7 (by omega) ?_
  refine wp_aload_n dX2_isWord_4 rfl rfl ?_
  refine wp_get 23 rfl fl_RX2_42 rfl ⟨by omega, by omega⟩ dX2_isWord_5 rfl (v := (y : Int)) (hy) ?_
  refine wp_aload_n dX2_isWord_8 rfl rfl ?_
  refine wp_get 23 rfl fl_RX2_64 rfl ⟨by omega, by omega⟩ dX2_isWord_9 rfl (v := (x : Int)) (hx) ?_
  refine wp_isub dX2_isWord_12 (by omega) ?_
  refine wp_icmp_eq (tgt := 18) dX2_isWord_13 (by decide) (fun h13 => ?_) (fun h13 => ?_)
  · refine wp_iconst dX2_isWord_18 (by decide) ?_
    refine wp_istore_n (loc' := [(2, 23), (2, 1007), (0, 0)]) dX2_isWord_19 rfl (Nat.le_of_ble_eq_true rfl) rfl ?_
    refine wp_iload_n dX2_isWord_20 rfl rfl ?_
    refine wp_aload_n dX2_isWord_21 rfl rfl ?_
    refine wp_callV0 (d' := d - 1) cv_RX2_19 1007 rfl [] [(0, 0)] rfl rfl (Or.inr ⟨by decide, by decide, rfl⟩) (by omega) (Nat.le_of_ble_eq_true rfl) dX2_isWord_22 rfl (Nat.le_of_ble_eq_true rfl) (by omega) (loc1 := [(2, 1007)]) rfl ?_
    refine sp_slen_7 (by omega) ?_
    refine wp_icmp_ge (tgt := 67) dX2_isWord_25 (by decide) (fun h => absurd h (by decide)) (fun _ => ?_)
    refine wp_aload_n dX2_isWord_28 rfl rfl ?_
    refine wp_get 23 rfl fl_RX2_64 rfl ⟨by omega, by omega⟩ dX2_isWord_29 rfl (v := (x : Int)) (hx) ?_
    refine wp_iload_n dX2_isWord_32 rfl rfl ?_
    refine wp_iadd dX2_isWord_33 (by omega) ?_
    refine wp_sipush dX2_isWord_34 (by decide) (by decide) ?_
    refine wp_icmp_ge (tgt := 67) dX2_isWord_37 (by decide) (fun h => absurd h (by omega)) (fun _ => ?_)
    refine wp_aload_n dX2_isWord_40 rfl rfl ?_
    refine wp_get 23 rfl fl_RX2_11 rfl ⟨by omega, by omega⟩ dX2_isWord_41 rfl (v := 24) (qr_23_0 (M := M) hR) ?_
    refine wp_aload_n dX2_isWord_44 rfl rfl ?_
    refine wp_get 23 rfl fl_RX2_64 rfl ⟨by omega, by omega⟩ dX2_isWord_45 rfl (v := (x : Int)) (hx) ?_
    refine wp_iload_n dX2_isWord_48 rfl rfl ?_
    refine wp_iadd dX2_isWord_49 (by omega) ?_
    refine wp_iald 24 rfl rfl ⟨by omega, by omega⟩ ⟨by omega, by omega⟩ dX2_isWord_50 (v := (f (x + 0))) (by rw [show (((x : Int) + 0)).toNat = (x + 0) by omega]; exact congrFun hf (x + 0)) ?_
    refine wp_aload_n dX2_isWord_51 rfl rfl ?_
    refine wp_iload_n dX2_isWord_52 rfl rfl ?_
    refine wp_callV0 (d' := d - 1) cv_RX2_25 1007 rfl [(0, 0)] [(0, (f (x + 0)))] rfl rfl (Or.inr ⟨by decide, by decide, rfl⟩) (by omega) (Nat.le_of_ble_eq_true rfl) dX2_isWord_53 rfl (Nat.le_of_ble_eq_true rfl) (by omega) (loc1 := [(2, 1007), (0, 0)]) rfl ?_
    refine sp_charAt_7 (by omega) (i := 0) (by decide) ?_
    refine wp_icmp_eq (tgt := 61) dX2_isWord_56 (by decide) (fun h56 => ?_) (fun h56 => ?_)
    · refine wp_iinc (loc' := [(2, 23), (2, 1007), (0, 1)]) dX2_isWord_61 rfl (by omega) rfl ?_
      refine wp_goto (tgt := 20) dX2_isWord_64 (by decide) ?_
      have e0 : f (x + 0) = byt 7 0 := h56
      refine wp_iload_n dX2_isWord_20 rfl rfl ?_
      refine wp_aload_n dX2_isWord_21 rfl rfl ?_
      refine wp_callV0 (d' := d - 1) cv_RX2_19 1007 rfl [] [(0, 1)] rfl rfl (Or.inr ⟨by decide, by decide, rfl⟩) (by omega) (Nat.le_of_ble_eq_true rfl) dX2_isWord_22 rfl (Nat.le_of_ble_eq_true rfl) (by omega) (loc1 := [(2, 1007)]) rfl ?_
      refine sp_slen_7 (by omega) ?_
      refine wp_icmp_ge (tgt := 67) dX2_isWord_25 (by decide) (fun h => absurd h (by decide)) (fun _ => ?_)
      refine wp_aload_n dX2_isWord_28 rfl rfl ?_
      refine wp_get 23 rfl fl_RX2_64 rfl ⟨by omega, by omega⟩ dX2_isWord_29 rfl (v := (x : Int)) (hx) ?_
      refine wp_iload_n dX2_isWord_32 rfl rfl ?_
      refine wp_iadd dX2_isWord_33 (by omega) ?_
      refine wp_sipush dX2_isWord_34 (by decide) (by decide) ?_
      refine wp_icmp_ge (tgt := 67) dX2_isWord_37 (by decide) (fun h => absurd h (by omega)) (fun _ => ?_)
      refine wp_aload_n dX2_isWord_40 rfl rfl ?_
      refine wp_get 23 rfl fl_RX2_11 rfl ⟨by omega, by omega⟩ dX2_isWord_41 rfl (v := 24) (qr_23_0 (M := M) hR) ?_
      refine wp_aload_n dX2_isWord_44 rfl rfl ?_
      refine wp_get 23 rfl fl_RX2_64 rfl ⟨by omega, by omega⟩ dX2_isWord_45 rfl (v := (x : Int)) (hx) ?_
      refine wp_iload_n dX2_isWord_48 rfl rfl ?_
      refine wp_iadd dX2_isWord_49 (by omega) ?_
      refine wp_iald 24 rfl rfl ⟨by omega, by omega⟩ ⟨by omega, by omega⟩ dX2_isWord_50 (v := (f (x + 1))) (by rw [show (((x : Int) + 1)).toNat = (x + 1) by omega]; exact congrFun hf (x + 1)) ?_
      refine wp_aload_n dX2_isWord_51 rfl rfl ?_
      refine wp_iload_n dX2_isWord_52 rfl rfl ?_
      refine wp_callV0 (d' := d - 1) cv_RX2_25 1007 rfl [(0, 1)] [(0, (f (x + 1)))] rfl rfl (Or.inr ⟨by decide, by decide, rfl⟩) (by omega) (Nat.le_of_ble_eq_true rfl) dX2_isWord_53 rfl (Nat.le_of_ble_eq_true rfl) (by omega) (loc1 := [(2, 1007), (0, 1)]) rfl ?_
      refine sp_charAt_7 (by omega) (i := 1) (by decide) ?_
      refine wp_icmp_eq (tgt := 61) dX2_isWord_56 (by decide) (fun h56 => ?_) (fun h56 => ?_)
      · refine wp_iinc (loc' := [(2, 23), (2, 1007), (0, 2)]) dX2_isWord_61 rfl (by omega) rfl ?_
        refine wp_goto (tgt := 20) dX2_isWord_64 (by decide) ?_
        have e1 : f (x + 1) = byt 7 1 := h56
        refine wp_iload_n dX2_isWord_20 rfl rfl ?_
        refine wp_aload_n dX2_isWord_21 rfl rfl ?_
        refine wp_callV0 (d' := d - 1) cv_RX2_19 1007 rfl [] [(0, 2)] rfl rfl (Or.inr ⟨by decide, by decide, rfl⟩) (by omega) (Nat.le_of_ble_eq_true rfl) dX2_isWord_22 rfl (Nat.le_of_ble_eq_true rfl) (by omega) (loc1 := [(2, 1007)]) rfl ?_
        refine sp_slen_7 (by omega) ?_
        refine wp_icmp_ge (tgt := 67) dX2_isWord_25 (by decide) (fun h => absurd h (by decide)) (fun _ => ?_)
        refine wp_aload_n dX2_isWord_28 rfl rfl ?_
        refine wp_get 23 rfl fl_RX2_64 rfl ⟨by omega, by omega⟩ dX2_isWord_29 rfl (v := (x : Int)) (hx) ?_
        refine wp_iload_n dX2_isWord_32 rfl rfl ?_
        refine wp_iadd dX2_isWord_33 (by omega) ?_
        refine wp_sipush dX2_isWord_34 (by decide) (by decide) ?_
        refine wp_icmp_ge (tgt := 67) dX2_isWord_37 (by decide) (fun h => absurd h (by omega)) (fun _ => ?_)
        refine wp_aload_n dX2_isWord_40 rfl rfl ?_
        refine wp_get 23 rfl fl_RX2_11 rfl ⟨by omega, by omega⟩ dX2_isWord_41 rfl (v := 24) (qr_23_0 (M := M) hR) ?_
        refine wp_aload_n dX2_isWord_44 rfl rfl ?_
        refine wp_get 23 rfl fl_RX2_64 rfl ⟨by omega, by omega⟩ dX2_isWord_45 rfl (v := (x : Int)) (hx) ?_
        refine wp_iload_n dX2_isWord_48 rfl rfl ?_
        refine wp_iadd dX2_isWord_49 (by omega) ?_
        refine wp_iald 24 rfl rfl ⟨by omega, by omega⟩ ⟨by omega, by omega⟩ dX2_isWord_50 (v := (f (x + 2))) (by rw [show (((x : Int) + 2)).toNat = (x + 2) by omega]; exact congrFun hf (x + 2)) ?_
        refine wp_aload_n dX2_isWord_51 rfl rfl ?_
        refine wp_iload_n dX2_isWord_52 rfl rfl ?_
        refine wp_callV0 (d' := d - 1) cv_RX2_25 1007 rfl [(0, 2)] [(0, (f (x + 2)))] rfl rfl (Or.inr ⟨by decide, by decide, rfl⟩) (by omega) (Nat.le_of_ble_eq_true rfl) dX2_isWord_53 rfl (Nat.le_of_ble_eq_true rfl) (by omega) (loc1 := [(2, 1007), (0, 2)]) rfl ?_
        refine sp_charAt_7 (by omega) (i := 2) (by decide) ?_
        refine wp_icmp_eq (tgt := 61) dX2_isWord_56 (by decide) (fun h56 => ?_) (fun h56 => ?_)
        · refine wp_iinc (loc' := [(2, 23), (2, 1007), (0, 3)]) dX2_isWord_61 rfl (by omega) rfl ?_
          refine wp_goto (tgt := 20) dX2_isWord_64 (by decide) ?_
          have e2 : f (x + 2) = byt 7 2 := h56
          refine wp_iload_n dX2_isWord_20 rfl rfl ?_
          refine wp_aload_n dX2_isWord_21 rfl rfl ?_
          refine wp_callV0 (d' := d - 1) cv_RX2_19 1007 rfl [] [(0, 3)] rfl rfl (Or.inr ⟨by decide, by decide, rfl⟩) (by omega) (Nat.le_of_ble_eq_true rfl) dX2_isWord_22 rfl (Nat.le_of_ble_eq_true rfl) (by omega) (loc1 := [(2, 1007)]) rfl ?_
          refine sp_slen_7 (by omega) ?_
          refine wp_icmp_ge (tgt := 67) dX2_isWord_25 (by decide) (fun h => absurd h (by decide)) (fun _ => ?_)
          refine wp_aload_n dX2_isWord_28 rfl rfl ?_
          refine wp_get 23 rfl fl_RX2_64 rfl ⟨by omega, by omega⟩ dX2_isWord_29 rfl (v := (x : Int)) (hx) ?_
          refine wp_iload_n dX2_isWord_32 rfl rfl ?_
          refine wp_iadd dX2_isWord_33 (by omega) ?_
          refine wp_sipush dX2_isWord_34 (by decide) (by decide) ?_
          refine wp_icmp_ge (tgt := 67) dX2_isWord_37 (by decide) (fun h => absurd h (by omega)) (fun _ => ?_)
          refine wp_aload_n dX2_isWord_40 rfl rfl ?_
          refine wp_get 23 rfl fl_RX2_11 rfl ⟨by omega, by omega⟩ dX2_isWord_41 rfl (v := 24) (qr_23_0 (M := M) hR) ?_
          refine wp_aload_n dX2_isWord_44 rfl rfl ?_
          refine wp_get 23 rfl fl_RX2_64 rfl ⟨by omega, by omega⟩ dX2_isWord_45 rfl (v := (x : Int)) (hx) ?_
          refine wp_iload_n dX2_isWord_48 rfl rfl ?_
          refine wp_iadd dX2_isWord_49 (by omega) ?_
          refine wp_iald 24 rfl rfl ⟨by omega, by omega⟩ ⟨by omega, by omega⟩ dX2_isWord_50 (v := (f (x + 3))) (by rw [show (((x : Int) + 3)).toNat = (x + 3) by omega]; exact congrFun hf (x + 3)) ?_
          refine wp_aload_n dX2_isWord_51 rfl rfl ?_
          refine wp_iload_n dX2_isWord_52 rfl rfl ?_
          refine wp_callV0 (d' := d - 1) cv_RX2_25 1007 rfl [(0, 3)] [(0, (f (x + 3)))] rfl rfl (Or.inr ⟨by decide, by decide, rfl⟩) (by omega) (Nat.le_of_ble_eq_true rfl) dX2_isWord_53 rfl (Nat.le_of_ble_eq_true rfl) (by omega) (loc1 := [(2, 1007), (0, 3)]) rfl ?_
          refine sp_charAt_7 (by omega) (i := 3) (by decide) ?_
          refine wp_icmp_eq (tgt := 61) dX2_isWord_56 (by decide) (fun h56 => ?_) (fun h56 => ?_)
          · refine wp_iinc (loc' := [(2, 23), (2, 1007), (0, 4)]) dX2_isWord_61 rfl (by omega) rfl ?_
            refine wp_goto (tgt := 20) dX2_isWord_64 (by decide) ?_
            have e3 : f (x + 3) = byt 7 3 := h56
            refine wp_iload_n dX2_isWord_20 rfl rfl ?_
            refine wp_aload_n dX2_isWord_21 rfl rfl ?_
            refine wp_callV0 (d' := d - 1) cv_RX2_19 1007 rfl [] [(0, 4)] rfl rfl (Or.inr ⟨by decide, by decide, rfl⟩) (by omega) (Nat.le_of_ble_eq_true rfl) dX2_isWord_22 rfl (Nat.le_of_ble_eq_true rfl) (by omega) (loc1 := [(2, 1007)]) rfl ?_
            refine sp_slen_7 (by omega) ?_
            refine wp_icmp_ge (tgt := 67) dX2_isWord_25 (by decide) (fun h => absurd h (by decide)) (fun _ => ?_)
            refine wp_aload_n dX2_isWord_28 rfl rfl ?_
            refine wp_get 23 rfl fl_RX2_64 rfl ⟨by omega, by omega⟩ dX2_isWord_29 rfl (v := (x : Int)) (hx) ?_
            refine wp_iload_n dX2_isWord_32 rfl rfl ?_
            refine wp_iadd dX2_isWord_33 (by omega) ?_
            refine wp_sipush dX2_isWord_34 (by decide) (by decide) ?_
            refine wp_icmp_ge (tgt := 67) dX2_isWord_37 (by decide) (fun h => absurd h (by omega)) (fun _ => ?_)
            refine wp_aload_n dX2_isWord_40 rfl rfl ?_
            refine wp_get 23 rfl fl_RX2_11 rfl ⟨by omega, by omega⟩ dX2_isWord_41 rfl (v := 24) (qr_23_0 (M := M) hR) ?_
            refine wp_aload_n dX2_isWord_44 rfl rfl ?_
            refine wp_get 23 rfl fl_RX2_64 rfl ⟨by omega, by omega⟩ dX2_isWord_45 rfl (v := (x : Int)) (hx) ?_
            refine wp_iload_n dX2_isWord_48 rfl rfl ?_
            refine wp_iadd dX2_isWord_49 (by omega) ?_
            refine wp_iald 24 rfl rfl ⟨by omega, by omega⟩ ⟨by omega, by omega⟩ dX2_isWord_50 (v := (f (x + 4))) (by rw [show (((x : Int) + 4)).toNat = (x + 4) by omega]; exact congrFun hf (x + 4)) ?_
            refine wp_aload_n dX2_isWord_51 rfl rfl ?_
            refine wp_iload_n dX2_isWord_52 rfl rfl ?_
            refine wp_callV0 (d' := d - 1) cv_RX2_25 1007 rfl [(0, 4)] [(0, (f (x + 4)))] rfl rfl (Or.inr ⟨by decide, by decide, rfl⟩) (by omega) (Nat.le_of_ble_eq_true rfl) dX2_isWord_53 rfl (Nat.le_of_ble_eq_true rfl) (by omega) (loc1 := [(2, 1007), (0, 4)]) rfl ?_
            refine sp_charAt_7 (by omega) (i := 4) (by decide) ?_
            refine wp_icmp_eq (tgt := 61) dX2_isWord_56 (by decide) (fun h56 => ?_) (fun h56 => ?_)
            · refine wp_iinc (loc' := [(2, 23), (2, 1007), (0, 5)]) dX2_isWord_61 rfl (by omega) rfl ?_
              refine wp_goto (tgt := 20) dX2_isWord_64 (by decide) ?_
              have e4 : f (x + 4) = byt 7 4 := h56
              refine wp_iload_n dX2_isWord_20 rfl rfl ?_
              refine wp_aload_n dX2_isWord_21 rfl rfl ?_
              refine wp_callV0 (d' := d - 1) cv_RX2_19 1007 rfl [] [(0, 5)] rfl rfl (Or.inr ⟨by decide, by decide, rfl⟩) (by omega) (Nat.le_of_ble_eq_true rfl) dX2_isWord_22 rfl (Nat.le_of_ble_eq_true rfl) (by omega) (loc1 := [(2, 1007)]) rfl ?_
              refine sp_slen_7 (by omega) ?_
              refine wp_icmp_ge (tgt := 67) dX2_isWord_25 (by decide) (fun _ => ?_) (fun h => absurd h (by decide))
              refine wp_iconst dX2_isWord_67 (by decide) ?_
              refine wp_zret rfl (by omega) dX2_isWord_68 ?_
              refine kt (decide_eq_true ⟨by show y = x + 5; omega, fun i hi => ?_⟩)
              have hi : i < 5 := hi
              match i, hi with
              | 0, _ => exact e0
              | 1, _ => exact e1
              | 2, _ => exact e2
              | 3, _ => exact e3
              | 4, _ => exact e4
              | i + 5, hi => exact absurd hi (by omega)
            · refine wp_iconst dX2_isWord_59 (by decide) ?_
              refine wp_zret rfl (by omega) dX2_isWord_60 ?_
              exact kf (decide_eq_false (fun h => h56 (h.2 4 (by decide))))
          · refine wp_iconst dX2_isWord_59 (by decide) ?_
            refine wp_zret rfl (by omega) dX2_isWord_60 ?_
            exact kf (decide_eq_false (fun h => h56 (h.2 3 (by decide))))
        · refine wp_iconst dX2_isWord_59 (by decide) ?_
          refine wp_zret rfl (by omega) dX2_isWord_60 ?_
          exact kf (decide_eq_false (fun h => h56 (h.2 2 (by decide))))
      · refine wp_iconst dX2_isWord_59 (by decide) ?_
        refine wp_zret rfl (by omega) dX2_isWord_60 ?_
        exact kf (decide_eq_false (fun h => h56 (h.2 1 (by decide))))
    · refine wp_iconst dX2_isWord_59 (by decide) ?_
      refine wp_zret rfl (by omega) dX2_isWord_60 ?_
      exact kf (decide_eq_false (fun h => h56 (h.2 0 (by decide))))
  · refine wp_iconst dX2_isWord_16 (by decide) ?_
    refine wp_zret rfl (by omega) dX2_isWord_17 ?_
    exact kf (decide_eq_false (fun h => h13 (by have h1 : y = x + 5 := h.1; omega)))
set_option maxRecDepth 20000 in
set_option maxHeartbeats 4000000 in
theorem sp_isWord_8 {l : Launch} {g : Gw} {d n : Nat} {M : Mm} {Q : Option Wd → Mm → Prop} (hn : 60 ≤ n) {f : Nat → Int} {z : Int} (hP : TP M f z) (hd : 5 ≤ d) {x y : Nat} (hx : M 23 3 = (x : Int)) (hy : M 23 4 = (y : Int)) (hxy : x ≤ y) (hyz : (y : Int) ≤ z) (kt : wmB 8 f x y = true → Q (some (0, 1)) M) (kf : wmB 8 f x y = false → Q (some (0, 0)) M) : Wp l g d 0 0 n m_X2_isWord 0 [] [(2, 23), (2, 1008), (9, 0)] M Q := by
  obtain ⟨hR, hf, hz, hz0, hz1⟩ := id hP
  refine wp_aload_n dX2_isWord_0 rfl rfl ?_
  refine wp_callV0 (d' := d - 1) cv_RX2_19 1008 rfl [] [] rfl rfl (Or.inr ⟨by decide, by decide, rfl⟩) (by omega) (Nat.le_of_ble_eq_true rfl) dX2_isWord_1 rfl (Nat.le_of_ble_eq_true rfl) (by omega) (loc1 := [(2, 1008)]) rfl ?_
  refine sp_slen_8 (by omega) ?_
  refine wp_aload_n dX2_isWord_4 rfl rfl ?_
  refine wp_get 23 rfl fl_RX2_42 rfl ⟨by omega, by omega⟩ dX2_isWord_5 rfl (v := (y : Int)) (hy) ?_
  refine wp_aload_n dX2_isWord_8 rfl rfl ?_
  refine wp_get 23 rfl fl_RX2_64 rfl ⟨by omega, by omega⟩ dX2_isWord_9 rfl (v := (x : Int)) (hx) ?_
  refine wp_isub dX2_isWord_12 (by omega) ?_
  refine wp_icmp_eq (tgt := 18) dX2_isWord_13 (by decide) (fun h13 => ?_) (fun h13 => ?_)
  · refine wp_iconst dX2_isWord_18 (by decide) ?_
    refine wp_istore_n (loc' := [(2, 23), (2, 1008), (0, 0)]) dX2_isWord_19 rfl (Nat.le_of_ble_eq_true rfl) rfl ?_
    refine wp_iload_n dX2_isWord_20 rfl rfl ?_
    refine wp_aload_n dX2_isWord_21 rfl rfl ?_
    refine wp_callV0 (d' := d - 1) cv_RX2_19 1008 rfl [] [(0, 0)] rfl rfl (Or.inr ⟨by decide, by decide, rfl⟩) (by omega) (Nat.le_of_ble_eq_true rfl) dX2_isWord_22 rfl (Nat.le_of_ble_eq_true rfl) (by omega) (loc1 := [(2, 1008)]) rfl ?_
    refine sp_slen_8 (by omega) ?_
    refine wp_icmp_ge (tgt := 67) dX2_isWord_25 (by decide) (fun h => absurd h (by decide)) (fun _ => ?_)
    refine wp_aload_n dX2_isWord_28 rfl rfl ?_
    refine wp_get 23 rfl fl_RX2_64 rfl ⟨by omega, by omega⟩ dX2_isWord_29 rfl (v := (x : Int)) (hx) ?_
    refine wp_iload_n dX2_isWord_32 rfl rfl ?_
    refine wp_iadd dX2_isWord_33 (by omega) ?_
    refine wp_sipush dX2_isWord_34 (by decide) (by decide) ?_
    refine wp_icmp_ge (tgt := 67) dX2_isWord_37 (by decide) (fun h => absurd h (by omega)) (fun _ => ?_)
    refine wp_aload_n dX2_isWord_40 rfl rfl ?_
    refine wp_get 23 rfl fl_RX2_11 rfl ⟨by omega, by omega⟩ dX2_isWord_41 rfl (v := 24) (qr_23_0 (M := M) hR) ?_
    refine wp_aload_n dX2_isWord_44 rfl rfl ?_
    refine wp_get 23 rfl fl_RX2_64 rfl ⟨by omega, by omega⟩ dX2_isWord_45 rfl (v := (x : Int)) (hx) ?_
    refine wp_iload_n dX2_isWord_48 rfl rfl ?_
    refine wp_iadd dX2_isWord_49 (by omega) ?_
    refine wp_iald 24 rfl rfl ⟨by omega, by omega⟩ ⟨by omega, by omega⟩ dX2_isWord_50 (v := (f (x + 0))) (by rw [show (((x : Int) + 0)).toNat = (x + 0) by omega]; exact congrFun hf (x + 0)) ?_
    refine wp_aload_n dX2_isWord_51 rfl rfl ?_
    refine wp_iload_n dX2_isWord_52 rfl rfl ?_
    refine wp_callV0 (d' := d - 1) cv_RX2_25 1008 rfl [(0, 0)] [(0, (f (x + 0)))] rfl rfl (Or.inr ⟨by decide, by decide, rfl⟩) (by omega) (Nat.le_of_ble_eq_true rfl) dX2_isWord_53 rfl (Nat.le_of_ble_eq_true rfl) (by omega) (loc1 := [(2, 1008), (0, 0)]) rfl ?_
    refine sp_charAt_8 (by omega) (i := 0) (by decide) ?_
    refine wp_icmp_eq (tgt := 61) dX2_isWord_56 (by decide) (fun h56 => ?_) (fun h56 => ?_)
    · refine wp_iinc (loc' := [(2, 23), (2, 1008), (0, 1)]) dX2_isWord_61 rfl (by omega) rfl ?_
      refine wp_goto (tgt := 20) dX2_isWord_64 (by decide) ?_
      have e0 : f (x + 0) = byt 8 0 := h56
      refine wp_iload_n dX2_isWord_20 rfl rfl ?_
      refine wp_aload_n dX2_isWord_21 rfl rfl ?_
      refine wp_callV0 (d' := d - 1) cv_RX2_19 1008 rfl [] [(0, 1)] rfl rfl (Or.inr ⟨by decide, by decide, rfl⟩) (by omega) (Nat.le_of_ble_eq_true rfl) dX2_isWord_22 rfl (Nat.le_of_ble_eq_true rfl) (by omega) (loc1 := [(2, 1008)]) rfl ?_
      refine sp_slen_8 (by omega) ?_
      refine wp_icmp_ge (tgt := 67) dX2_isWord_25 (by decide) (fun h => absurd h (by decide)) (fun _ => ?_)
      refine wp_aload_n dX2_isWord_28 rfl rfl ?_
      refine wp_get 23 rfl fl_RX2_64 rfl ⟨by omega, by omega⟩ dX2_isWord_29 rfl (v := (x : Int)) (hx) ?_
      refine wp_iload_n dX2_isWord_32 rfl rfl ?_
      refine wp_iadd dX2_isWord_33 (by omega) ?_
      refine wp_sipush dX2_isWord_34 (by decide) (by decide) ?_
      refine wp_icmp_ge (tgt := 67) dX2_isWord_37 (by decide) (fun h => absurd h (by omega)) (fun _ => ?_)
      refine wp_aload_n dX2_isWord_40 rfl rfl ?_
      refine wp_get 23 rfl fl_RX2_11 rfl ⟨by omega, by omega⟩ dX2_isWord_41 rfl (v := 24) (qr_23_0 (M := M) hR) ?_
      refine wp_aload_n dX2_isWord_44 rfl rfl ?_
      refine wp_get 23 rfl fl_RX2_64 rfl ⟨by omega, by omega⟩ dX2_isWord_45 rfl (v := (x : Int)) (hx) ?_
      refine wp_iload_n dX2_isWord_48 rfl rfl ?_
      refine wp_iadd dX2_isWord_49 (by omega) ?_
      refine wp_iald 24 rfl rfl ⟨by omega, by omega⟩ ⟨by omega, by omega⟩ dX2_isWord_50 (v := (f (x + 1))) (by rw [show (((x : Int) + 1)).toNat = (x + 1) by omega]; exact congrFun hf (x + 1)) ?_
      refine wp_aload_n dX2_isWord_51 rfl rfl ?_
      refine wp_iload_n dX2_isWord_52 rfl rfl ?_
      refine wp_callV0 (d' := d - 1) cv_RX2_25 1008 rfl [(0, 1)] [(0, (f (x + 1)))] rfl rfl (Or.inr ⟨by decide, by decide, rfl⟩) (by omega) (Nat.le_of_ble_eq_true rfl) dX2_isWord_53 rfl (Nat.le_of_ble_eq_true rfl) (by omega) (loc1 := [(2, 1008), (0, 1)]) rfl ?_
      refine sp_charAt_8 (by omega) (i := 1) (by decide) ?_
      refine wp_icmp_eq (tgt := 61) dX2_isWord_56 (by decide) (fun h56 => ?_) (fun h56 => ?_)
      · refine wp_iinc (loc' := [(2, 23), (2, 1008), (0, 2)]) dX2_isWord_61 rfl (by omega) rfl ?_
        refine wp_goto (tgt := 20) dX2_isWord_64 (by decide) ?_
        have e1 : f (x + 1) = byt 8 1 := h56
        refine wp_iload_n dX2_isWord_20 rfl rfl ?_
        refine wp_aload_n dX2_isWord_21 rfl rfl ?_
        refine wp_callV0 (d' := d - 1) cv_RX2_19 1008 rfl [] [(0, 2)] rfl rfl (Or.inr ⟨by decide, by decide, rfl⟩) (by omega) (Nat.le_of_ble_eq_true rfl) dX2_isWord_22 rfl (Nat.le_of_ble_eq_true rfl) (by omega) (loc1 := [(2, 1008)]) rfl ?_
        refine sp_slen_8 (by omega) ?_
        refine wp_icmp_ge (tgt := 67) dX2_isWord_25 (by decide) (fun h => absurd h (by decide)) (fun _ => ?_)
        refine wp_aload_n dX2_isWord_28 rfl rfl ?_
        refine wp_get 23 rfl fl_RX2_64 rfl ⟨by omega, by omega⟩ dX2_isWord_29 rfl (v := (x : Int)) (hx) ?_
        refine wp_iload_n dX2_isWord_32 rfl rfl ?_
        refine wp_iadd dX2_isWord_33 (by omega) ?_
        refine wp_sipush dX2_isWord_34 (by decide) (by decide) ?_
        refine wp_icmp_ge (tgt := 67) dX2_isWord_37 (by decide) (fun h => absurd h (by omega)) (fun _ => ?_)
        refine wp_aload_n dX2_isWord_40 rfl rfl ?_
        refine wp_get 23 rfl fl_RX2_11 rfl ⟨by omega, by omega⟩ dX2_isWord_41 rfl (v := 24) (qr_23_0 (M := M) hR) ?_
        refine wp_aload_n dX2_isWord_44 rfl rfl ?_
        refine wp_get 23 rfl fl_RX2_64 rfl ⟨by omega, by omega⟩ dX2_isWord_45 rfl (v := (x : Int)) (hx) ?_
        refine wp_iload_n dX2_isWord_48 rfl rfl ?_
        refine wp_iadd dX2_isWord_49 (by omega) ?_
        refine wp_iald 24 rfl rfl ⟨by omega, by omega⟩ ⟨by omega, by omega⟩ dX2_isWord_50 (v := (f (x + 2))) (by rw [show (((x : Int) + 2)).toNat = (x + 2) by omega]; exact congrFun hf (x + 2)) ?_
        refine wp_aload_n dX2_isWord_51 rfl rfl ?_
        refine wp_iload_n dX2_isWord_52 rfl rfl ?_
        refine wp_callV0 (d' := d - 1) cv_RX2_25 1008 rfl [(0, 2)] [(0, (f (x + 2)))] rfl rfl (Or.inr ⟨by decide, by decide, rfl⟩) (by omega) (Nat.le_of_ble_eq_true rfl) dX2_isWord_53 rfl (Nat.le_of_ble_eq_true rfl) (by omega) (loc1 := [(2, 1008), (0, 2)]) rfl ?_
        refine sp_charAt_8 (by omega) (i := 2) (by decide) ?_
        refine wp_icmp_eq (tgt := 61) dX2_isWord_56 (by decide) (fun h56 => ?_) (fun h56 => ?_)
        · refine wp_iinc (loc' := [(2, 23), (2, 1008), (0, 3)]) dX2_isWord_61 rfl (by omega) rfl ?_
          refine wp_goto (tgt := 20) dX2_isWord_64 (by decide) ?_
          have e2 : f (x + 2) = byt 8 2 := h56
          refine wp_iload_n dX2_isWord_20 rfl rfl ?_
          refine wp_aload_n dX2_isWord_21 rfl rfl ?_
          refine wp_callV0 (d' := d - 1) cv_RX2_19 1008 rfl [] [(0, 3)] rfl rfl (Or.inr ⟨by decide, by decide, rfl⟩) (by omega) (Nat.le_of_ble_eq_true rfl) dX2_isWord_22 rfl (Nat.le_of_ble_eq_true rfl) (by omega) (loc1 := [(2, 1008)]) rfl ?_
          refine sp_slen_8 (by omega) ?_
          refine wp_icmp_ge (tgt := 67) dX2_isWord_25 (by decide) (fun h => absurd h (by decide)) (fun _ => ?_)
          refine wp_aload_n dX2_isWord_28 rfl rfl ?_
          refine wp_get 23 rfl fl_RX2_64 rfl ⟨by omega, by omega⟩ dX2_isWord_29 rfl (v := (x : Int)) (hx) ?_
          refine wp_iload_n dX2_isWord_32 rfl rfl ?_
          refine wp_iadd dX2_isWord_33 (by omega) ?_
          refine wp_sipush dX2_isWord_34 (by decide) (by decide) ?_
          refine wp_icmp_ge (tgt := 67) dX2_isWord_37 (by decide) (fun h => absurd h (by omega)) (fun _ => ?_)
          refine wp_aload_n dX2_isWord_40 rfl rfl ?_
          refine wp_get 23 rfl fl_RX2_11 rfl ⟨by omega, by omega⟩ dX2_isWord_41 rfl (v := 24) (qr_23_0 (M := M) hR) ?_
          refine wp_aload_n dX2_isWord_44 rfl rfl ?_
          refine wp_get 23 rfl fl_RX2_64 rfl ⟨by omega, by omega⟩ dX2_isWord_45 rfl (v := (x : Int)) (hx) ?_
          refine wp_iload_n dX2_isWord_48 rfl rfl ?_
          refine wp_iadd dX2_isWord_49 (by omega) ?_
          refine wp_iald 24 rfl rfl ⟨by omega, by omega⟩ ⟨by omega, by omega⟩ dX2_isWord_50 (v := (f (x + 3))) (by rw [show (((x : Int) + 3)).toNat = (x + 3) by omega]; exact congrFun hf (x + 3)) ?_
          refine wp_aload_n dX2_isWord_51 rfl rfl ?_
          refine wp_iload_n dX2_isWord_52 rfl rfl ?_
          refine wp_callV0 (d' := d - 1) cv_RX2_25 1008 rfl [(0, 3)] [(0, (f (x + 3)))] rfl rfl (Or.inr ⟨by decide, by decide, rfl⟩) (by omega) (Nat.le_of_ble_eq_true rfl) dX2_isWord_53 rfl (Nat.le_of_ble_eq_true rfl) (by omega) (loc1 := [(2, 1008), (0, 3)]) rfl ?_
          refine sp_charAt_8 (by omega) (i := 3) (by decide) ?_
          refine wp_icmp_eq (tgt := 61) dX2_isWord_56 (by decide) (fun h56 => ?_) (fun h56 => ?_)
          · refine wp_iinc (loc' := [(2, 23), (2, 1008), (0, 4)]) dX2_isWord_61 rfl (by omega) rfl ?_
            refine wp_goto (tgt := 20) dX2_isWord_64 (by decide) ?_
            have e3 : f (x + 3) = byt 8 3 := h56
            refine wp_iload_n dX2_isWord_20 rfl rfl ?_
            refine wp_aload_n dX2_isWord_21 rfl rfl ?_
            refine wp_callV0 (d' := d - 1) cv_RX2_19 1008 rfl [] [(0, 4)] rfl rfl (Or.inr ⟨by decide, by decide, rfl⟩) (by omega) (Nat.le_of_ble_eq_true rfl) dX2_isWord_22 rfl (Nat.le_of_ble_eq_true rfl) (by omega) (loc1 := [(2, 1008)]) rfl ?_
            refine sp_slen_8 (by omega) ?_
            refine wp_icmp_ge (tgt := 67) dX2_isWord_25 (by decide) (fun h => absurd h (by decide)) (fun _ => ?_)
            refine wp_aload_n dX2_isWord_28 rfl rfl ?_
            refine wp_get 23 rfl fl_RX2_64 rfl ⟨by omega, by omega⟩ dX2_isWord_29 rfl (v := (x : Int)) (hx) ?_
            refine wp_iload_n dX2_isWord_32 rfl rfl ?_
            refine wp_iadd dX2_isWord_33 (by omega) ?_
            refine wp_sipush dX2_isWord_34 (by decide) (by decide) ?_
            refine wp_icmp_ge (tgt := 67) dX2_isWord_37 (by decide) (fun h => absurd h (by omega)) (fun _ => ?_)
            refine wp_aload_n dX2_isWord_40 rfl rfl ?_
            refine wp_get 23 rfl fl_RX2_11 rfl ⟨by omega, by omega⟩ dX2_isWord_41 rfl (v := 24) (qr_23_0 (M := M) hR) ?_
            refine wp_aload_n dX2_isWord_44 rfl rfl ?_
            refine wp_get 23 rfl fl_RX2_64 rfl ⟨by omega, by omega⟩ dX2_isWord_45 rfl (v := (x : Int)) (hx) ?_
            refine wp_iload_n dX2_isWord_48 rfl rfl ?_
            refine wp_iadd dX2_isWord_49 (by omega) ?_
            refine wp_iald 24 rfl rfl ⟨by omega, by omega⟩ ⟨by omega, by omega⟩ dX2_isWord_50 (v := (f (x + 4))) (by rw [show (((x : Int) + 4)).toNat = (x + 4) by omega]; exact congrFun hf (x + 4)) ?_
            refine wp_aload_n dX2_isWord_51 rfl rfl ?_
            refine wp_iload_n dX2_isWord_52 rfl rfl ?_
            refine wp_callV0 (d' := d - 1) cv_RX2_25 1008 rfl [(0, 4)] [(0, (f (x + 4)))] rfl rfl (Or.inr ⟨by decide, by decide, rfl⟩) (by omega) (Nat.le_of_ble_eq_true rfl) dX2_isWord_53 rfl (Nat.le_of_ble_eq_true rfl) (by omega) (loc1 := [(2, 1008), (0, 4)]) rfl ?_
            refine sp_charAt_8 (by omega) (i := 4) (by decide) ?_
            refine wp_icmp_eq (tgt := 61) dX2_isWord_56 (by decide) (fun h56 => ?_) (fun h56 => ?_)
            · refine wp_iinc (loc' := [(2, 23), (2, 1008), (0, 5)]) dX2_isWord_61 rfl (by omega) rfl ?_
              refine wp_goto (tgt := 20) dX2_isWord_64 (by decide) ?_
              have e4 : f (x + 4) = byt 8 4 := h56
              refine wp_iload_n dX2_isWord_20 rfl rfl ?_
              refine wp_aload_n dX2_isWord_21 rfl rfl ?_
              refine wp_callV0 (d' := d - 1) cv_RX2_19 1008 rfl [] [(0, 5)] rfl rfl (Or.inr ⟨by decide, by decide, rfl⟩) (by omega) (Nat.le_of_ble_eq_true rfl) dX2_isWord_22 rfl (Nat.le_of_ble_eq_true rfl) (by omega) (loc1 := [(2, 1008)]) rfl ?_
              refine sp_slen_8 (by omega) ?_
              refine wp_icmp_ge (tgt := 67) dX2_isWord_25 (by decide) (fun h => absurd h (by decide)) (fun _ => ?_)
              refine wp_aload_n dX2_isWord_28 rfl rfl ?_
              refine wp_get 23 rfl fl_RX2_64 rfl ⟨by omega, by omega⟩ dX2_isWord_29 rfl (v := (x : Int)) (hx) ?_
              refine wp_iload_n dX2_isWord_32 rfl rfl ?_
              refine wp_iadd dX2_isWord_33 (by omega) ?_
              refine wp_sipush dX2_isWord_34 (by decide) (by decide) ?_
              refine wp_icmp_ge (tgt := 67) dX2_isWord_37 (by decide) (fun h => absurd h (by omega)) (fun _ => ?_)
              refine wp_aload_n dX2_isWord_40 rfl rfl ?_
              refine wp_get 23 rfl fl_RX2_11 rfl ⟨by omega, by omega⟩ dX2_isWord_41 rfl (v := 24) (qr_23_0 (M := M) hR) ?_
              refine wp_aload_n dX2_isWord_44 rfl rfl ?_
              refine wp_get 23 rfl fl_RX2_64 rfl ⟨by omega, by omega⟩ dX2_isWord_45 rfl (v := (x : Int)) (hx) ?_
              refine wp_iload_n dX2_isWord_48 rfl rfl ?_
              refine wp_iadd dX2_isWord_49 (by omega) ?_
              refine wp_iald 24 rfl rfl ⟨by omega, by omega⟩ ⟨by omega, by omega⟩ dX2_isWord_50 (v := (f (x + 5))) (by rw [show (((x : Int) + 5)).toNat = (x + 5) by omega]; exact congrFun hf (x + 5)) ?_
              refine wp_aload_n dX2_isWord_51 rfl rfl ?_
              refine wp_iload_n dX2_isWord_52 rfl rfl ?_
              refine wp_callV0 (d' := d - 1) cv_RX2_25 1008 rfl [(0, 5)] [(0, (f (x + 5)))] rfl rfl (Or.inr ⟨by decide, by decide, rfl⟩) (by omega) (Nat.le_of_ble_eq_true rfl) dX2_isWord_53 rfl (Nat.le_of_ble_eq_true rfl) (by omega) (loc1 := [(2, 1008), (0, 5)]) rfl ?_
              refine sp_charAt_8 (by omega) (i := 5) (by decide) ?_
              refine wp_icmp_eq (tgt := 61) dX2_isWord_56 (by decide) (fun h56 => ?_) (fun h56 => ?_)
              · refine wp_iinc (loc' := [(2, 23), (2, 1008), (0, 6)]) dX2_isWord_61 rfl (by omega) rfl ?_
                refine wp_goto (tgt := 20) dX2_isWord_64 (by decide) ?_
                have e5 : f (x + 5) = byt 8 5 := h56
                refine wp_iload_n dX2_isWord_20 rfl rfl ?_
                refine wp_aload_n dX2_isWord_21 rfl rfl ?_
                refine wp_callV0 (d' := d - 1) cv_RX2_19 1008 rfl [] [(0, 6)] rfl rfl (Or.inr ⟨by decide, by decide, rfl⟩) (by omega) (Nat.le_of_ble_eq_true rfl) dX2_isWord_22 rfl (Nat.le_of_ble_eq_true rfl) (by omega) (loc1 := [(2, 1008)]) rfl ?_
                refine sp_slen_8 (by omega) ?_
                refine wp_icmp_ge (tgt := 67) dX2_isWord_25 (by decide) (fun _ => ?_) (fun h => absurd h (by decide))
                refine wp_iconst dX2_isWord_67 (by decide) ?_
                refine wp_zret rfl (by omega) dX2_isWord_68 ?_
                refine kt (decide_eq_true ⟨by show y = x + 6; omega, fun i hi => ?_⟩)
                have hi : i < 6 := hi
                match i, hi with
                | 0, _ => exact e0
                | 1, _ => exact e1
                | 2, _ => exact e2
                | 3, _ => exact e3
                | 4, _ => exact e4
                | 5, _ => exact e5
                | i + 6, hi => exact absurd hi (by omega)
              · refine wp_iconst dX2_isWord_59 (by decide) ?_
                refine wp_zret rfl (by omega) dX2_isWord_60 ?_
                exact kf (decide_eq_false (fun h => h56 (h.2 5 (by decide))))
            · refine wp_iconst dX2_isWord_59 (by decide) ?_
              refine wp_zret rfl (by omega) dX2_isWord_60 ?_
              exact kf (decide_eq_false (fun h => h56 (h.2 4 (by decide))))
          · refine wp_iconst dX2_isWord_59 (by decide) ?_
            refine wp_zret rfl (by omega) dX2_isWord_60 ?_
            exact kf (decide_eq_false (fun h => h56 (h.2 3 (by decide))))
        · refine wp_iconst dX2_isWord_59 (by decide) ?_
          refine wp_zret rfl (by omega) dX2_isWord_60 ?_
          exact kf (decide_eq_false (fun h => h56 (h.2 2 (by decide))))
      · refine wp_iconst dX2_isWord_59 (by decide) ?_
        refine wp_zret rfl (by omega) dX2_isWord_60 ?_
        exact kf (decide_eq_false (fun h => h56 (h.2 1 (by decide))))
    · refine wp_iconst dX2_isWord_59 (by decide) ?_
      refine wp_zret rfl (by omega) dX2_isWord_60 ?_
      exact kf (decide_eq_false (fun h => h56 (h.2 0 (by decide))))
  · refine wp_iconst dX2_isWord_16 (by decide) ?_
    refine wp_zret rfl (by omega) dX2_isWord_17 ?_
    exact kf (decide_eq_false (fun h => h13 (by have h1 : y = x + 6 := h.1; omega)))
set_option maxRecDepth 20000 in
set_option maxHeartbeats 4000000 in
theorem sp_isWord_9 {l : Launch} {g : Gw} {d n : Nat} {M : Mm} {Q : Option Wd → Mm → Prop} (hn : 60 ≤ n) {f : Nat → Int} {z : Int} (hP : TP M f z) (hd : 5 ≤ d) {x y : Nat} (hx : M 23 3 = (x : Int)) (hy : M 23 4 = (y : Int)) (hxy : x ≤ y) (hyz : (y : Int) ≤ z) (kt : wmB 9 f x y = true → Q (some (0, 1)) M) (kf : wmB 9 f x y = false → Q (some (0, 0)) M) : Wp l g d 0 0 n m_X2_isWord 0 [] [(2, 23), (2, 1009), (9, 0)] M Q := by
  obtain ⟨hR, hf, hz, hz0, hz1⟩ := id hP
  refine wp_aload_n dX2_isWord_0 rfl rfl ?_
  refine wp_callV0 (d' := d - 1) cv_RX2_19 1009 rfl [] [] rfl rfl (Or.inr ⟨by decide, by decide, rfl⟩) (by omega) (Nat.le_of_ble_eq_true rfl) dX2_isWord_1 rfl (Nat.le_of_ble_eq_true rfl) (by omega) (loc1 := [(2, 1009)]) rfl ?_
  refine sp_slen_9 (by omega) ?_
  refine wp_aload_n dX2_isWord_4 rfl rfl ?_
  refine wp_get 23 rfl fl_RX2_42 rfl ⟨by omega, by omega⟩ dX2_isWord_5 rfl (v := (y : Int)) (hy) ?_
  refine wp_aload_n dX2_isWord_8 rfl rfl ?_
  refine wp_get 23 rfl fl_RX2_64 rfl ⟨by omega, by omega⟩ dX2_isWord_9 rfl (v := (x : Int)) (hx) ?_
  refine wp_isub dX2_isWord_12 (by omega) ?_
  refine wp_icmp_eq (tgt := 18) dX2_isWord_13 (by decide) (fun h13 => ?_) (fun h13 => ?_)
  · refine wp_iconst dX2_isWord_18 (by decide) ?_
    refine wp_istore_n (loc' := [(2, 23), (2, 1009), (0, 0)]) dX2_isWord_19 rfl (Nat.le_of_ble_eq_true rfl) rfl ?_
    refine wp_iload_n dX2_isWord_20 rfl rfl ?_
    refine wp_aload_n dX2_isWord_21 rfl rfl ?_
    refine wp_callV0 (d' := d - 1) cv_RX2_19 1009 rfl [] [(0, 0)] rfl rfl (Or.inr ⟨by decide, by decide, rfl⟩) (by omega) (Nat.le_of_ble_eq_true rfl) dX2_isWord_22 rfl (Nat.le_of_ble_eq_true rfl) (by omega) (loc1 := [(2, 1009)]) rfl ?_
    refine sp_slen_9 (by omega) ?_
    refine wp_icmp_ge (tgt := 67) dX2_isWord_25 (by decide) (fun h => absurd h (by decide)) (fun _ => ?_)
    refine wp_aload_n dX2_isWord_28 rfl rfl ?_
    refine wp_get 23 rfl fl_RX2_64 rfl ⟨by omega, by omega⟩ dX2_isWord_29 rfl (v := (x : Int)) (hx) ?_
    refine wp_iload_n dX2_isWord_32 rfl rfl ?_
    refine wp_iadd dX2_isWord_33 (by omega) ?_
    refine wp_sipush dX2_isWord_34 (by decide) (by decide) ?_
    refine wp_icmp_ge (tgt := 67) dX2_isWord_37 (by decide) (fun h => absurd h (by omega)) (fun _ => ?_)
    refine wp_aload_n dX2_isWord_40 rfl rfl ?_
    refine wp_get 23 rfl fl_RX2_11 rfl ⟨by omega, by omega⟩ dX2_isWord_41 rfl (v := 24) (qr_23_0 (M := M) hR) ?_
    refine wp_aload_n dX2_isWord_44 rfl rfl ?_
    refine wp_get 23 rfl fl_RX2_64 rfl ⟨by omega, by omega⟩ dX2_isWord_45 rfl (v := (x : Int)) (hx) ?_
    refine wp_iload_n dX2_isWord_48 rfl rfl ?_
    refine wp_iadd dX2_isWord_49 (by omega) ?_
    refine wp_iald 24 rfl rfl ⟨by omega, by omega⟩ ⟨by omega, by omega⟩ dX2_isWord_50 (v := (f (x + 0))) (by rw [show (((x : Int) + 0)).toNat = (x + 0) by omega]; exact congrFun hf (x + 0)) ?_
    refine wp_aload_n dX2_isWord_51 rfl rfl ?_
    refine wp_iload_n dX2_isWord_52 rfl rfl ?_
    refine wp_callV0 (d' := d - 1) cv_RX2_25 1009 rfl [(0, 0)] [(0, (f (x + 0)))] rfl rfl (Or.inr ⟨by decide, by decide, rfl⟩) (by omega) (Nat.le_of_ble_eq_true rfl) dX2_isWord_53 rfl (Nat.le_of_ble_eq_true rfl) (by omega) (loc1 := [(2, 1009), (0, 0)]) rfl ?_
    refine sp_charAt_9 (by omega) (i := 0) (by decide) ?_
    refine wp_icmp_eq (tgt := 61) dX2_isWord_56 (by decide) (fun h56 => ?_) (fun h56 => ?_)
    · refine wp_iinc (loc' := [(2, 23), (2, 1009), (0, 1)]) dX2_isWord_61 rfl (by omega) rfl ?_
      refine wp_goto (tgt := 20) dX2_isWord_64 (by decide) ?_
      have e0 : f (x + 0) = byt 9 0 := h56
      refine wp_iload_n dX2_isWord_20 rfl rfl ?_
      refine wp_aload_n dX2_isWord_21 rfl rfl ?_
      refine wp_callV0 (d' := d - 1) cv_RX2_19 1009 rfl [] [(0, 1)] rfl rfl (Or.inr ⟨by decide, by decide, rfl⟩) (by omega) (Nat.le_of_ble_eq_true rfl) dX2_isWord_22 rfl (Nat.le_of_ble_eq_true rfl) (by omega) (loc1 := [(2, 1009)]) rfl ?_
      refine sp_slen_9 (by omega) ?_
      refine wp_icmp_ge (tgt := 67) dX2_isWord_25 (by decide) (fun h => absurd h (by decide)) (fun _ => ?_)
      refine wp_aload_n dX2_isWord_28 rfl rfl ?_
      refine wp_get 23 rfl fl_RX2_64 rfl ⟨by omega, by omega⟩ dX2_isWord_29 rfl (v := (x : Int)) (hx) ?_
      refine wp_iload_n dX2_isWord_32 rfl rfl ?_
      refine wp_iadd dX2_isWord_33 (by omega) ?_
      refine wp_sipush dX2_isWord_34 (by decide) (by decide) ?_
      refine wp_icmp_ge (tgt := 67) dX2_isWord_37 (by decide) (fun h => absurd h (by omega)) (fun _ => ?_)
      refine wp_aload_n dX2_isWord_40 rfl rfl ?_
      refine wp_get 23 rfl fl_RX2_11 rfl ⟨by omega, by omega⟩ dX2_isWord_41 rfl (v := 24) (qr_23_0 (M := M) hR) ?_
      refine wp_aload_n dX2_isWord_44 rfl rfl ?_
      refine wp_get 23 rfl fl_RX2_64 rfl ⟨by omega, by omega⟩ dX2_isWord_45 rfl (v := (x : Int)) (hx) ?_
      refine wp_iload_n dX2_isWord_48 rfl rfl ?_
      refine wp_iadd dX2_isWord_49 (by omega) ?_
      refine wp_iald 24 rfl rfl ⟨by omega, by omega⟩ ⟨by omega, by omega⟩ dX2_isWord_50 (v := (f (x + 1))) (by rw [show (((x : Int) + 1)).toNat = (x + 1) by omega]; exact congrFun hf (x + 1)) ?_
      refine wp_aload_n dX2_isWord_51 rfl rfl ?_
      refine wp_iload_n dX2_isWord_52 rfl rfl ?_
      refine wp_callV0 (d' := d - 1) cv_RX2_25 1009 rfl [(0, 1)] [(0, (f (x + 1)))] rfl rfl (Or.inr ⟨by decide, by decide, rfl⟩) (by omega) (Nat.le_of_ble_eq_true rfl) dX2_isWord_53 rfl (Nat.le_of_ble_eq_true rfl) (by omega) (loc1 := [(2, 1009), (0, 1)]) rfl ?_
      refine sp_charAt_9 (by omega) (i := 1) (by decide) ?_
      refine wp_icmp_eq (tgt := 61) dX2_isWord_56 (by decide) (fun h56 => ?_) (fun h56 => ?_)
      · refine wp_iinc (loc' := [(2, 23), (2, 1009), (0, 2)]) dX2_isWord_61 rfl (by omega) rfl ?_
        refine wp_goto (tgt := 20) dX2_isWord_64 (by decide) ?_
        have e1 : f (x + 1) = byt 9 1 := h56
        refine wp_iload_n dX2_isWord_20 rfl rfl ?_
        refine wp_aload_n dX2_isWord_21 rfl rfl ?_
        refine wp_callV0 (d' := d - 1) cv_RX2_19 1009 rfl [] [(0, 2)] rfl rfl (Or.inr ⟨by decide, by decide, rfl⟩) (by omega) (Nat.le_of_ble_eq_true rfl) dX2_isWord_22 rfl (Nat.le_of_ble_eq_true rfl) (by omega) (loc1 := [(2, 1009)]) rfl ?_
        refine sp_slen_9 (by omega) ?_
        refine wp_icmp_ge (tgt := 67) dX2_isWord_25 (by decide) (fun h => absurd h (by decide)) (fun _ => ?_)
        refine wp_aload_n dX2_isWord_28 rfl rfl ?_
        refine wp_get 23 rfl fl_RX2_64 rfl ⟨by omega, by omega⟩ dX2_isWord_29 rfl (v := (x : Int)) (hx) ?_
        refine wp_iload_n dX2_isWord_32 rfl rfl ?_
        refine wp_iadd dX2_isWord_33 (by omega) ?_
        refine wp_sipush dX2_isWord_34 (by decide) (by decide) ?_
        refine wp_icmp_ge (tgt := 67) dX2_isWord_37 (by decide) (fun h => absurd h (by omega)) (fun _ => ?_)
        refine wp_aload_n dX2_isWord_40 rfl rfl ?_
        refine wp_get 23 rfl fl_RX2_11 rfl ⟨by omega, by omega⟩ dX2_isWord_41 rfl (v := 24) (qr_23_0 (M := M) hR) ?_
        refine wp_aload_n dX2_isWord_44 rfl rfl ?_
        refine wp_get 23 rfl fl_RX2_64 rfl ⟨by omega, by omega⟩ dX2_isWord_45 rfl (v := (x : Int)) (hx) ?_
        refine wp_iload_n dX2_isWord_48 rfl rfl ?_
        refine wp_iadd dX2_isWord_49 (by omega) ?_
        refine wp_iald 24 rfl rfl ⟨by omega, by omega⟩ ⟨by omega, by omega⟩ dX2_isWord_50 (v := (f (x + 2))) (by rw [show (((x : Int) + 2)).toNat = (x + 2) by omega]; exact congrFun hf (x + 2)) ?_
        refine wp_aload_n dX2_isWord_51 rfl rfl ?_
        refine wp_iload_n dX2_isWord_52 rfl rfl ?_
        refine wp_callV0 (d' := d - 1) cv_RX2_25 1009 rfl [(0, 2)] [(0, (f (x + 2)))] rfl rfl (Or.inr ⟨by decide, by decide, rfl⟩) (by omega) (Nat.le_of_ble_eq_true rfl) dX2_isWord_53 rfl (Nat.le_of_ble_eq_true rfl) (by omega) (loc1 := [(2, 1009), (0, 2)]) rfl ?_
        refine sp_charAt_9 (by omega) (i := 2) (by decide) ?_
        refine wp_icmp_eq (tgt := 61) dX2_isWord_56 (by decide) (fun h56 => ?_) (fun h56 => ?_)
        · refine wp_iinc (loc' := [(2, 23), (2, 1009), (0, 3)]) dX2_isWord_61 rfl (by omega) rfl ?_
          refine wp_goto (tgt := 20) dX2_isWord_64 (by decide) ?_
          have e2 : f (x + 2) = byt 9 2 := h56
          refine wp_iload_n dX2_isWord_20 rfl rfl ?_
          refine wp_aload_n dX2_isWord_21 rfl rfl ?_
          refine wp_callV0 (d' := d - 1) cv_RX2_19 1009 rfl [] [(0, 3)] rfl rfl (Or.inr ⟨by decide, by decide, rfl⟩) (by omega) (Nat.le_of_ble_eq_true rfl) dX2_isWord_22 rfl (Nat.le_of_ble_eq_true rfl) (by omega) (loc1 := [(2, 1009)]) rfl ?_
          refine sp_slen_9 (by omega) ?_
          refine wp_icmp_ge (tgt := 67) dX2_isWord_25 (by decide) (fun h => absurd h (by decide)) (fun _ => ?_)
          refine wp_aload_n dX2_isWord_28 rfl rfl ?_
          refine wp_get 23 rfl fl_RX2_64 rfl ⟨by omega, by omega⟩ dX2_isWord_29 rfl (v := (x : Int)) (hx) ?_
          refine wp_iload_n dX2_isWord_32 rfl rfl ?_
          refine wp_iadd dX2_isWord_33 (by omega) ?_
          refine wp_sipush dX2_isWord_34 (by decide) (by decide) ?_
          refine wp_icmp_ge (tgt := 67) dX2_isWord_37 (by decide) (fun h => absurd h (by omega)) (fun _ => ?_)
          refine wp_aload_n dX2_isWord_40 rfl rfl ?_
          refine wp_get 23 rfl fl_RX2_11 rfl ⟨by omega, by omega⟩ dX2_isWord_41 rfl (v := 24) (qr_23_0 (M := M) hR) ?_
          refine wp_aload_n dX2_isWord_44 rfl rfl ?_
          refine wp_get 23 rfl fl_RX2_64 rfl ⟨by omega, by omega⟩ dX2_isWord_45 rfl (v := (x : Int)) (hx) ?_
          refine wp_iload_n dX2_isWord_48 rfl rfl ?_
          refine wp_iadd dX2_isWord_49 (by omega) ?_
          refine wp_iald 24 rfl rfl ⟨by omega, by omega⟩ ⟨by omega, by omega⟩ dX2_isWord_50 (v := (f (x + 3))) (by rw [show (((x : Int) + 3)).toNat = (x + 3) by omega]; exact congrFun hf (x + 3)) ?_
          refine wp_aload_n dX2_isWord_51 rfl rfl ?_
          refine wp_iload_n dX2_isWord_52 rfl rfl ?_
          refine wp_callV0 (d' := d - 1) cv_RX2_25 1009 rfl [(0, 3)] [(0, (f (x + 3)))] rfl rfl (Or.inr ⟨by decide, by decide, rfl⟩) (by omega) (Nat.le_of_ble_eq_true rfl) dX2_isWord_53 rfl (Nat.le_of_ble_eq_true rfl) (by omega) (loc1 := [(2, 1009), (0, 3)]) rfl ?_
          refine sp_charAt_9 (by omega) (i := 3) (by decide) ?_
          refine wp_icmp_eq (tgt := 61) dX2_isWord_56 (by decide) (fun h56 => ?_) (fun h56 => ?_)
          · refine wp_iinc (loc' := [(2, 23), (2, 1009), (0, 4)]) dX2_isWord_61 rfl (by omega) rfl ?_
            refine wp_goto (tgt := 20) dX2_isWord_64 (by decide) ?_
            have e3 : f (x + 3) = byt 9 3 := h56
            refine wp_iload_n dX2_isWord_20 rfl rfl ?_
            refine wp_aload_n dX2_isWord_21 rfl rfl ?_
            refine wp_callV0 (d' := d - 1) cv_RX2_19 1009 rfl [] [(0, 4)] rfl rfl (Or.inr ⟨by decide, by decide, rfl⟩) (by omega) (Nat.le_of_ble_eq_true rfl) dX2_isWord_22 rfl (Nat.le_of_ble_eq_true rfl) (by omega) (loc1 := [(2, 1009)]) rfl ?_
            refine sp_slen_9 (by omega) ?_
            refine wp_icmp_ge (tgt := 67) dX2_isWord_25 (by decide) (fun h => absurd h (by decide)) (fun _ => ?_)
            refine wp_aload_n dX2_isWord_28 rfl rfl ?_
            refine wp_get 23 rfl fl_RX2_64 rfl ⟨by omega, by omega⟩ dX2_isWord_29 rfl (v := (x : Int)) (hx) ?_
            refine wp_iload_n dX2_isWord_32 rfl rfl ?_
            refine wp_iadd dX2_isWord_33 (by omega) ?_
            refine wp_sipush dX2_isWord_34 (by decide) (by decide) ?_
            refine wp_icmp_ge (tgt := 67) dX2_isWord_37 (by decide) (fun h => absurd h (by omega)) (fun _ => ?_)
            refine wp_aload_n dX2_isWord_40 rfl rfl ?_
            refine wp_get 23 rfl fl_RX2_11 rfl ⟨by omega, by omega⟩ dX2_isWord_41 rfl (v := 24) (qr_23_0 (M := M) hR) ?_
            refine wp_aload_n dX2_isWord_44 rfl rfl ?_
            refine wp_get 23 rfl fl_RX2_64 rfl ⟨by omega, by omega⟩ dX2_isWord_45 rfl (v := (x : Int)) (hx) ?_
            refine wp_iload_n dX2_isWord_48 rfl rfl ?_
            refine wp_iadd dX2_isWord_49 (by omega) ?_
            refine wp_iald 24 rfl rfl ⟨by omega, by omega⟩ ⟨by omega, by omega⟩ dX2_isWord_50 (v := (f (x + 4))) (by rw [show (((x : Int) + 4)).toNat = (x + 4) by omega]; exact congrFun hf (x + 4)) ?_
            refine wp_aload_n dX2_isWord_51 rfl rfl ?_
            refine wp_iload_n dX2_isWord_52 rfl rfl ?_
            refine wp_callV0 (d' := d - 1) cv_RX2_25 1009 rfl [(0, 4)] [(0, (f (x + 4)))] rfl rfl (Or.inr ⟨by decide, by decide, rfl⟩) (by omega) (Nat.le_of_ble_eq_true rfl) dX2_isWord_53 rfl (Nat.le_of_ble_eq_true rfl) (by omega) (loc1 := [(2, 1009), (0, 4)]) rfl ?_
            refine sp_charAt_9 (by omega) (i := 4) (by decide) ?_
            refine wp_icmp_eq (tgt := 61) dX2_isWord_56 (by decide) (fun h56 => ?_) (fun h56 => ?_)
            · refine wp_iinc (loc' := [(2, 23), (2, 1009), (0, 5)]) dX2_isWord_61 rfl (by omega) rfl ?_
              refine wp_goto (tgt := 20) dX2_isWord_64 (by decide) ?_
              have e4 : f (x + 4) = byt 9 4 := h56
              refine wp_iload_n dX2_isWord_20 rfl rfl ?_
              refine wp_aload_n dX2_isWord_21 rfl rfl ?_
              refine wp_callV0 (d' := d - 1) cv_RX2_19 1009 rfl [] [(0, 5)] rfl rfl (Or.inr ⟨by decide, by decide, rfl⟩) (by omega) (Nat.le_of_ble_eq_true rfl) dX2_isWord_22 rfl (Nat.le_of_ble_eq_true rfl) (by omega) (loc1 := [(2, 1009)]) rfl ?_
              refine sp_slen_9 (by omega) ?_
              refine wp_icmp_ge (tgt := 67) dX2_isWord_25 (by decide) (fun h => absurd h (by decide)) (fun _ => ?_)
              refine wp_aload_n dX2_isWord_28 rfl rfl ?_
              refine wp_get 23 rfl fl_RX2_64 rfl ⟨by omega, by omega⟩ dX2_isWord_29 rfl (v := (x : Int)) (hx) ?_
              refine wp_iload_n dX2_isWord_32 rfl rfl ?_
              refine wp_iadd dX2_isWord_33 (by omega) ?_
              refine wp_sipush dX2_isWord_34 (by decide) (by decide) ?_
              refine wp_icmp_ge (tgt := 67) dX2_isWord_37 (by decide) (fun h => absurd h (by omega)) (fun _ => ?_)
              refine wp_aload_n dX2_isWord_40 rfl rfl ?_
              refine wp_get 23 rfl fl_RX2_11 rfl ⟨by omega, by omega⟩ dX2_isWord_41 rfl (v := 24) (qr_23_0 (M := M) hR) ?_
              refine wp_aload_n dX2_isWord_44 rfl rfl ?_
              refine wp_get 23 rfl fl_RX2_64 rfl ⟨by omega, by omega⟩ dX2_isWord_45 rfl (v := (x : Int)) (hx) ?_
              refine wp_iload_n dX2_isWord_48 rfl rfl ?_
              refine wp_iadd dX2_isWord_49 (by omega) ?_
              refine wp_iald 24 rfl rfl ⟨by omega, by omega⟩ ⟨by omega, by omega⟩ dX2_isWord_50 (v := (f (x + 5))) (by rw [show (((x : Int) + 5)).toNat = (x + 5) by omega]; exact congrFun hf (x + 5)) ?_
              refine wp_aload_n dX2_isWord_51 rfl rfl ?_
              refine wp_iload_n dX2_isWord_52 rfl rfl ?_
              refine wp_callV0 (d' := d - 1) cv_RX2_25 1009 rfl [(0, 5)] [(0, (f (x + 5)))] rfl rfl (Or.inr ⟨by decide, by decide, rfl⟩) (by omega) (Nat.le_of_ble_eq_true rfl) dX2_isWord_53 rfl (Nat.le_of_ble_eq_true rfl) (by omega) (loc1 := [(2, 1009), (0, 5)]) rfl ?_
              refine sp_charAt_9 (by omega) (i := 5) (by decide) ?_
              refine wp_icmp_eq (tgt := 61) dX2_isWord_56 (by decide) (fun h56 => ?_) (fun h56 => ?_)
              · refine wp_iinc (loc' := [(2, 23), (2, 1009), (0, 6)]) dX2_isWord_61 rfl (by omega) rfl ?_
                refine wp_goto (tgt := 20) dX2_isWord_64 (by decide) ?_
                have e5 : f (x + 5) = byt 9 5 := h56
                refine wp_iload_n dX2_isWord_20 rfl rfl ?_
                refine wp_aload_n dX2_isWord_21 rfl rfl ?_
                refine wp_callV0 (d' := d - 1) cv_RX2_19 1009 rfl [] [(0, 6)] rfl rfl (Or.inr ⟨by decide, by decide, rfl⟩) (by omega) (Nat.le_of_ble_eq_true rfl) dX2_isWord_22 rfl (Nat.le_of_ble_eq_true rfl) (by omega) (loc1 := [(2, 1009)]) rfl ?_
                refine sp_slen_9 (by omega) ?_
                refine wp_icmp_ge (tgt := 67) dX2_isWord_25 (by decide) (fun _ => ?_) (fun h => absurd h (by decide))
                refine wp_iconst dX2_isWord_67 (by decide) ?_
                refine wp_zret rfl (by omega) dX2_isWord_68 ?_
                refine kt (decide_eq_true ⟨by show y = x + 6; omega, fun i hi => ?_⟩)
                have hi : i < 6 := hi
                match i, hi with
                | 0, _ => exact e0
                | 1, _ => exact e1
                | 2, _ => exact e2
                | 3, _ => exact e3
                | 4, _ => exact e4
                | 5, _ => exact e5
                | i + 6, hi => exact absurd hi (by omega)
              · refine wp_iconst dX2_isWord_59 (by decide) ?_
                refine wp_zret rfl (by omega) dX2_isWord_60 ?_
                exact kf (decide_eq_false (fun h => h56 (h.2 5 (by decide))))
            · refine wp_iconst dX2_isWord_59 (by decide) ?_
              refine wp_zret rfl (by omega) dX2_isWord_60 ?_
              exact kf (decide_eq_false (fun h => h56 (h.2 4 (by decide))))
          · refine wp_iconst dX2_isWord_59 (by decide) ?_
            refine wp_zret rfl (by omega) dX2_isWord_60 ?_
            exact kf (decide_eq_false (fun h => h56 (h.2 3 (by decide))))
        · refine wp_iconst dX2_isWord_59 (by decide) ?_
          refine wp_zret rfl (by omega) dX2_isWord_60 ?_
          exact kf (decide_eq_false (fun h => h56 (h.2 2 (by decide))))
      · refine wp_iconst dX2_isWord_59 (by decide) ?_
        refine wp_zret rfl (by omega) dX2_isWord_60 ?_
        exact kf (decide_eq_false (fun h => h56 (h.2 1 (by decide))))
    · refine wp_iconst dX2_isWord_59 (by decide) ?_
      refine wp_zret rfl (by omega) dX2_isWord_60 ?_
      exact kf (decide_eq_false (fun h => h56 (h.2 0 (by decide))))
  · refine wp_iconst dX2_isWord_16 (by decide) ?_
    refine wp_zret rfl (by omega) dX2_isWord_17 ?_
    exact kf (decide_eq_false (fun h => h13 (by have h1 : y = x + 6 := h.1; omega)))
set_option maxRecDepth 20000 in
set_option maxHeartbeats 4000000 in
theorem sp_isWord_10 {l : Launch} {g : Gw} {d n : Nat} {M : Mm} {Q : Option Wd → Mm → Prop} (hn : 60 ≤ n) {f : Nat → Int} {z : Int} (hP : TP M f z) (hd : 5 ≤ d) {x y : Nat} (hx : M 23 3 = (x : Int)) (hy : M 23 4 = (y : Int)) (hxy : x ≤ y) (hyz : (y : Int) ≤ z) (kt : wmB 10 f x y = true → Q (some (0, 1)) M) (kf : wmB 10 f x y = false → Q (some (0, 0)) M) : Wp l g d 0 0 n m_X2_isWord 0 [] [(2, 23), (2, 1010), (9, 0)] M Q := by
  obtain ⟨hR, hf, hz, hz0, hz1⟩ := id hP
  refine wp_aload_n dX2_isWord_0 rfl rfl ?_
  refine wp_callV0 (d' := d - 1) cv_RX2_19 1010 rfl [] [] rfl rfl (Or.inr ⟨by decide, by decide, rfl⟩) (by omega) (Nat.le_of_ble_eq_true rfl) dX2_isWord_1 rfl (Nat.le_of_ble_eq_true rfl) (by omega) (loc1 := [(2, 1010)]) rfl ?_
  refine sp_slen_10 (by omega) ?_
  refine wp_aload_n dX2_isWord_4 rfl rfl ?_
  refine wp_get 23 rfl fl_RX2_42 rfl ⟨by omega, by omega⟩ dX2_isWord_5 rfl (v := (y : Int)) (hy) ?_
  refine wp_aload_n dX2_isWord_8 rfl rfl ?_
  refine wp_get 23 rfl fl_RX2_64 rfl ⟨by omega, by omega⟩ dX2_isWord_9 rfl (v := (x : Int)) (hx) ?_
  refine wp_isub dX2_isWord_12 (by omega) ?_
  refine wp_icmp_eq (tgt := 18) dX2_isWord_13 (by decide) (fun h13 => ?_) (fun h13 => ?_)
  · refine wp_iconst dX2_isWord_18 (by decide) ?_
    refine wp_istore_n (loc' := [(2, 23), (2, 1010), (0, 0)]) dX2_isWord_19 rfl (Nat.le_of_ble_eq_true rfl) rfl ?_
    refine wp_iload_n dX2_isWord_20 rfl rfl ?_
    refine wp_aload_n dX2_isWord_21 rfl rfl ?_
    refine wp_callV0 (d' := d - 1) cv_RX2_19 1010 rfl [] [(0, 0)] rfl rfl (Or.inr ⟨by decide, by decide, rfl⟩) (by omega) (Nat.le_of_ble_eq_true rfl) dX2_isWord_22 rfl (Nat.le_of_ble_eq_true rfl) (by omega) (loc1 := [(2, 1010)]) rfl ?_
    refine sp_slen_10 (by omega) ?_
    refine wp_icmp_ge (tgt := 67) dX2_isWord_25 (by decide) (fun h => absurd h (by decide)) (fun _ => ?_)
    refine wp_aload_n dX2_isWord_28 rfl rfl ?_
    refine wp_get 23 rfl fl_RX2_64 rfl ⟨by omega, by omega⟩ dX2_isWord_29 rfl (v := (x : Int)) (hx) ?_
    refine wp_iload_n dX2_isWord_32 rfl rfl ?_
    refine wp_iadd dX2_isWord_33 (by omega) ?_
    refine wp_sipush dX2_isWord_34 (by decide) (by decide) ?_
    refine wp_icmp_ge (tgt := 67) dX2_isWord_37 (by decide) (fun h => absurd h (by omega)) (fun _ => ?_)
    refine wp_aload_n dX2_isWord_40 rfl rfl ?_
    refine wp_get 23 rfl fl_RX2_11 rfl ⟨by omega, by omega⟩ dX2_isWord_41 rfl (v := 24) (qr_23_0 (M := M) hR) ?_
    refine wp_aload_n dX2_isWord_44 rfl rfl ?_
    refine wp_get 23 rfl fl_RX2_64 rfl ⟨by omega, by omega⟩ dX2_isWord_45 rfl (v := (x : Int)) (hx) ?_
    refine wp_iload_n dX2_isWord_48 rfl rfl ?_
    refine wp_iadd dX2_isWord_49 (by omega) ?_
    refine wp_iald 24 rfl rfl ⟨by omega, by omega⟩ ⟨by omega, by omega⟩ dX2_isWord_50 (v := (f (x + 0))) (by rw [show (((x : Int) + 0)).toNat = (x + 0) by omega]; exact congrFun hf (x + 0)) ?_
    refine wp_aload_n dX2_isWord_51 rfl rfl ?_
    refine wp_iload_n dX2_isWord_52 rfl rfl ?_
    refine wp_callV0 (d' := d - 1) cv_RX2_25 1010 rfl [(0, 0)] [(0, (f (x + 0)))] rfl rfl (Or.inr ⟨by decide, by decide, rfl⟩) (by omega) (Nat.le_of_ble_eq_true rfl) dX2_isWord_53 rfl (Nat.le_of_ble_eq_true rfl) (by omega) (loc1 := [(2, 1010), (0, 0)]) rfl ?_
    refine sp_charAt_10 (by omega) (i := 0) (by decide) ?_
    refine wp_icmp_eq (tgt := 61) dX2_isWord_56 (by decide) (fun h56 => ?_) (fun h56 => ?_)
    · refine wp_iinc (loc' := [(2, 23), (2, 1010), (0, 1)]) dX2_isWord_61 rfl (by omega) rfl ?_
      refine wp_goto (tgt := 20) dX2_isWord_64 (by decide) ?_
      have e0 : f (x + 0) = byt 10 0 := h56
      refine wp_iload_n dX2_isWord_20 rfl rfl ?_
      refine wp_aload_n dX2_isWord_21 rfl rfl ?_
      refine wp_callV0 (d' := d - 1) cv_RX2_19 1010 rfl [] [(0, 1)] rfl rfl (Or.inr ⟨by decide, by decide, rfl⟩) (by omega) (Nat.le_of_ble_eq_true rfl) dX2_isWord_22 rfl (Nat.le_of_ble_eq_true rfl) (by omega) (loc1 := [(2, 1010)]) rfl ?_
      refine sp_slen_10 (by omega) ?_
      refine wp_icmp_ge (tgt := 67) dX2_isWord_25 (by decide) (fun h => absurd h (by decide)) (fun _ => ?_)
      refine wp_aload_n dX2_isWord_28 rfl rfl ?_
      refine wp_get 23 rfl fl_RX2_64 rfl ⟨by omega, by omega⟩ dX2_isWord_29 rfl (v := (x : Int)) (hx) ?_
      refine wp_iload_n dX2_isWord_32 rfl rfl ?_
      refine wp_iadd dX2_isWord_33 (by omega) ?_
      refine wp_sipush dX2_isWord_34 (by decide) (by decide) ?_
      refine wp_icmp_ge (tgt := 67) dX2_isWord_37 (by decide) (fun h => absurd h (by omega)) (fun _ => ?_)
      refine wp_aload_n dX2_isWord_40 rfl rfl ?_
      refine wp_get 23 rfl fl_RX2_11 rfl ⟨by omega, by omega⟩ dX2_isWord_41 rfl (v := 24) (qr_23_0 (M := M) hR) ?_
      refine wp_aload_n dX2_isWord_44 rfl rfl ?_
      refine wp_get 23 rfl fl_RX2_64 rfl ⟨by omega, by omega⟩ dX2_isWord_45 rfl (v := (x : Int)) (hx) ?_
      refine wp_iload_n dX2_isWord_48 rfl rfl ?_
      refine wp_iadd dX2_isWord_49 (by omega) ?_
      refine wp_iald 24 rfl rfl ⟨by omega, by omega⟩ ⟨by omega, by omega⟩ dX2_isWord_50 (v := (f (x + 1))) (by rw [show (((x : Int) + 1)).toNat = (x + 1) by omega]; exact congrFun hf (x + 1)) ?_
      refine wp_aload_n dX2_isWord_51 rfl rfl ?_
      refine wp_iload_n dX2_isWord_52 rfl rfl ?_
      refine wp_callV0 (d' := d - 1) cv_RX2_25 1010 rfl [(0, 1)] [(0, (f (x + 1)))] rfl rfl (Or.inr ⟨by decide, by decide, rfl⟩) (by omega) (Nat.le_of_ble_eq_true rfl) dX2_isWord_53 rfl (Nat.le_of_ble_eq_true rfl) (by omega) (loc1 := [(2, 1010), (0, 1)]) rfl ?_
      refine sp_charAt_10 (by omega) (i := 1) (by decide) ?_
      refine wp_icmp_eq (tgt := 61) dX2_isWord_56 (by decide) (fun h56 => ?_) (fun h56 => ?_)
      · refine wp_iinc (loc' := [(2, 23), (2, 1010), (0, 2)]) dX2_isWord_61 rfl (by omega) rfl ?_
        refine wp_goto (tgt := 20) dX2_isWord_64 (by decide) ?_
        have e1 : f (x + 1) = byt 10 1 := h56
        refine wp_iload_n dX2_isWord_20 rfl rfl ?_
        refine wp_aload_n dX2_isWord_21 rfl rfl ?_
        refine wp_callV0 (d' := d - 1) cv_RX2_19 1010 rfl [] [(0, 2)] rfl rfl (Or.inr ⟨by decide, by decide, rfl⟩) (by omega) (Nat.le_of_ble_eq_true rfl) dX2_isWord_22 rfl (Nat.le_of_ble_eq_true rfl) (by omega) (loc1 := [(2, 1010)]) rfl ?_
        refine sp_slen_10 (by omega) ?_
        refine wp_icmp_ge (tgt := 67) dX2_isWord_25 (by decide) (fun h => absurd h (by decide)) (fun _ => ?_)
        refine wp_aload_n dX2_isWord_28 rfl rfl ?_
        refine wp_get 23 rfl fl_RX2_64 rfl ⟨by omega, by omega⟩ dX2_isWord_29 rfl (v := (x : Int)) (hx) ?_
        refine wp_iload_n dX2_isWord_32 rfl rfl ?_
        refine wp_iadd dX2_isWord_33 (by omega) ?_
        refine wp_sipush dX2_isWord_34 (by decide) (by decide) ?_
        refine wp_icmp_ge (tgt := 67) dX2_isWord_37 (by decide) (fun h => absurd h (by omega)) (fun _ => ?_)
        refine wp_aload_n dX2_isWord_40 rfl rfl ?_
        refine wp_get 23 rfl fl_RX2_11 rfl ⟨by omega, by omega⟩ dX2_isWord_41 rfl (v := 24) (qr_23_0 (M := M) hR) ?_
        refine wp_aload_n dX2_isWord_44 rfl rfl ?_
        refine wp_get 23 rfl fl_RX2_64 rfl ⟨by omega, by omega⟩ dX2_isWord_45 rfl (v := (x : Int)) (hx) ?_
        refine wp_iload_n dX2_isWord_48 rfl rfl ?_
        refine wp_iadd dX2_isWord_49 (by omega) ?_
        refine wp_iald 24 rfl rfl ⟨by omega, by omega⟩ ⟨by omega, by omega⟩ dX2_isWord_50 (v := (f (x + 2))) (by rw [show (((x : Int) + 2)).toNat = (x + 2) by omega]; exact congrFun hf (x + 2)) ?_
        refine wp_aload_n dX2_isWord_51 rfl rfl ?_
        refine wp_iload_n dX2_isWord_52 rfl rfl ?_
        refine wp_callV0 (d' := d - 1) cv_RX2_25 1010 rfl [(0, 2)] [(0, (f (x + 2)))] rfl rfl (Or.inr ⟨by decide, by decide, rfl⟩) (by omega) (Nat.le_of_ble_eq_true rfl) dX2_isWord_53 rfl (Nat.le_of_ble_eq_true rfl) (by omega) (loc1 := [(2, 1010), (0, 2)]) rfl ?_
        refine sp_charAt_10 (by omega) (i := 2) (by decide) ?_
        refine wp_icmp_eq (tgt := 61) dX2_isWord_56 (by decide) (fun h56 => ?_) (fun h56 => ?_)
        · refine wp_iinc (loc' := [(2, 23), (2, 1010), (0, 3)]) dX2_isWord_61 rfl (by omega) rfl ?_
          refine wp_goto (tgt := 20) dX2_isWord_64 (by decide) ?_
          have e2 : f (x + 2) = byt 10 2 := h56
          refine wp_iload_n dX2_isWord_20 rfl rfl ?_
          refine wp_aload_n dX2_isWord_21 rfl rfl ?_
          refine wp_callV0 (d' := d - 1) cv_RX2_19 1010 rfl [] [(0, 3)] rfl rfl (Or.inr ⟨by decide, by decide, rfl⟩) (by omega) (Nat.le_of_ble_eq_true rfl) dX2_isWord_22 rfl (Nat.le_of_ble_eq_true rfl) (by omega) (loc1 := [(2, 1010)]) rfl ?_
          refine sp_slen_10 (by omega) ?_
          refine wp_icmp_ge (tgt := 67) dX2_isWord_25 (by decide) (fun h => absurd h (by decide)) (fun _ => ?_)
          refine wp_aload_n dX2_isWord_28 rfl rfl ?_
          refine wp_get 23 rfl fl_RX2_64 rfl ⟨by omega, by omega⟩ dX2_isWord_29 rfl (v := (x : Int)) (hx) ?_
          refine wp_iload_n dX2_isWord_32 rfl rfl ?_
          refine wp_iadd dX2_isWord_33 (by omega) ?_
          refine wp_sipush dX2_isWord_34 (by decide) (by decide) ?_
          refine wp_icmp_ge (tgt := 67) dX2_isWord_37 (by decide) (fun h => absurd h (by omega)) (fun _ => ?_)
          refine wp_aload_n dX2_isWord_40 rfl rfl ?_
          refine wp_get 23 rfl fl_RX2_11 rfl ⟨by omega, by omega⟩ dX2_isWord_41 rfl (v := 24) (qr_23_0 (M := M) hR) ?_
          refine wp_aload_n dX2_isWord_44 rfl rfl ?_
          refine wp_get 23 rfl fl_RX2_64 rfl ⟨by omega, by omega⟩ dX2_isWord_45 rfl (v := (x : Int)) (hx) ?_
          refine wp_iload_n dX2_isWord_48 rfl rfl ?_
          refine wp_iadd dX2_isWord_49 (by omega) ?_
          refine wp_iald 24 rfl rfl ⟨by omega, by omega⟩ ⟨by omega, by omega⟩ dX2_isWord_50 (v := (f (x + 3))) (by rw [show (((x : Int) + 3)).toNat = (x + 3) by omega]; exact congrFun hf (x + 3)) ?_
          refine wp_aload_n dX2_isWord_51 rfl rfl ?_
          refine wp_iload_n dX2_isWord_52 rfl rfl ?_
          refine wp_callV0 (d' := d - 1) cv_RX2_25 1010 rfl [(0, 3)] [(0, (f (x + 3)))] rfl rfl (Or.inr ⟨by decide, by decide, rfl⟩) (by omega) (Nat.le_of_ble_eq_true rfl) dX2_isWord_53 rfl (Nat.le_of_ble_eq_true rfl) (by omega) (loc1 := [(2, 1010), (0, 3)]) rfl ?_
          refine sp_charAt_10 (by omega) (i := 3) (by decide) ?_
          refine wp_icmp_eq (tgt := 61) dX2_isWord_56 (by decide) (fun h56 => ?_) (fun h56 => ?_)
          · refine wp_iinc (loc' := [(2, 23), (2, 1010), (0, 4)]) dX2_isWord_61 rfl (by omega) rfl ?_
            refine wp_goto (tgt := 20) dX2_isWord_64 (by decide) ?_
            have e3 : f (x + 3) = byt 10 3 := h56
            refine wp_iload_n dX2_isWord_20 rfl rfl ?_
            refine wp_aload_n dX2_isWord_21 rfl rfl ?_
            refine wp_callV0 (d' := d - 1) cv_RX2_19 1010 rfl [] [(0, 4)] rfl rfl (Or.inr ⟨by decide, by decide, rfl⟩) (by omega) (Nat.le_of_ble_eq_true rfl) dX2_isWord_22 rfl (Nat.le_of_ble_eq_true rfl) (by omega) (loc1 := [(2, 1010)]) rfl ?_
            refine sp_slen_10 (by omega) ?_
            refine wp_icmp_ge (tgt := 67) dX2_isWord_25 (by decide) (fun h => absurd h (by decide)) (fun _ => ?_)
            refine wp_aload_n dX2_isWord_28 rfl rfl ?_
            refine wp_get 23 rfl fl_RX2_64 rfl ⟨by omega, by omega⟩ dX2_isWord_29 rfl (v := (x : Int)) (hx) ?_
            refine wp_iload_n dX2_isWord_32 rfl rfl ?_
            refine wp_iadd dX2_isWord_33 (by omega) ?_
            refine wp_sipush dX2_isWord_34 (by decide) (by decide) ?_
            refine wp_icmp_ge (tgt := 67) dX2_isWord_37 (by decide) (fun h => absurd h (by omega)) (fun _ => ?_)
            refine wp_aload_n dX2_isWord_40 rfl rfl ?_
            refine wp_get 23 rfl fl_RX2_11 rfl ⟨by omega, by omega⟩ dX2_isWord_41 rfl (v := 24) (qr_23_0 (M := M) hR) ?_
            refine wp_aload_n dX2_isWord_44 rfl rfl ?_
            refine wp_get 23 rfl fl_RX2_64 rfl ⟨by omega, by omega⟩ dX2_isWord_45 rfl (v := (x : Int)) (hx) ?_
            refine wp_iload_n dX2_isWord_48 rfl rfl ?_
            refine wp_iadd dX2_isWord_49 (by omega) ?_
            refine wp_iald 24 rfl rfl ⟨by omega, by omega⟩ ⟨by omega, by omega⟩ dX2_isWord_50 (v := (f (x + 4))) (by rw [show (((x : Int) + 4)).toNat = (x + 4) by omega]; exact congrFun hf (x + 4)) ?_
            refine wp_aload_n dX2_isWord_51 rfl rfl ?_
            refine wp_iload_n dX2_isWord_52 rfl rfl ?_
            refine wp_callV0 (d' := d - 1) cv_RX2_25 1010 rfl [(0, 4)] [(0, (f (x + 4)))] rfl rfl (Or.inr ⟨by decide, by decide, rfl⟩) (by omega) (Nat.le_of_ble_eq_true rfl) dX2_isWord_53 rfl (Nat.le_of_ble_eq_true rfl) (by omega) (loc1 := [(2, 1010), (0, 4)]) rfl ?_
            refine sp_charAt_10 (by omega) (i := 4) (by decide) ?_
            refine wp_icmp_eq (tgt := 61) dX2_isWord_56 (by decide) (fun h56 => ?_) (fun h56 => ?_)
            · refine wp_iinc (loc' := [(2, 23), (2, 1010), (0, 5)]) dX2_isWord_61 rfl (by omega) rfl ?_
              refine wp_goto (tgt := 20) dX2_isWord_64 (by decide) ?_
              have e4 : f (x + 4) = byt 10 4 := h56
              refine wp_iload_n dX2_isWord_20 rfl rfl ?_
              refine wp_aload_n dX2_isWord_21 rfl rfl ?_
              refine wp_callV0 (d' := d - 1) cv_RX2_19 1010 rfl [] [(0, 5)] rfl rfl (Or.inr ⟨by decide, by decide, rfl⟩) (by omega) (Nat.le_of_ble_eq_true rfl) dX2_isWord_22 rfl (Nat.le_of_ble_eq_true rfl) (by omega) (loc1 := [(2, 1010)]) rfl ?_
              refine sp_slen_10 (by omega) ?_
              refine wp_icmp_ge (tgt := 67) dX2_isWord_25 (by decide) (fun h => absurd h (by decide)) (fun _ => ?_)
              refine wp_aload_n dX2_isWord_28 rfl rfl ?_
              refine wp_get 23 rfl fl_RX2_64 rfl ⟨by omega, by omega⟩ dX2_isWord_29 rfl (v := (x : Int)) (hx) ?_
              refine wp_iload_n dX2_isWord_32 rfl rfl ?_
              refine wp_iadd dX2_isWord_33 (by omega) ?_
              refine wp_sipush dX2_isWord_34 (by decide) (by decide) ?_
              refine wp_icmp_ge (tgt := 67) dX2_isWord_37 (by decide) (fun h => absurd h (by omega)) (fun _ => ?_)
              refine wp_aload_n dX2_isWord_40 rfl rfl ?_
              refine wp_get 23 rfl fl_RX2_11 rfl ⟨by omega, by omega⟩ dX2_isWord_41 rfl (v := 24) (qr_23_0 (M := M) hR) ?_
              refine wp_aload_n dX2_isWord_44 rfl rfl ?_
              refine wp_get 23 rfl fl_RX2_64 rfl ⟨by omega, by omega⟩ dX2_isWord_45 rfl (v := (x : Int)) (hx) ?_
              refine wp_iload_n dX2_isWord_48 rfl rfl ?_
              refine wp_iadd dX2_isWord_49 (by omega) ?_
              refine wp_iald 24 rfl rfl ⟨by omega, by omega⟩ ⟨by omega, by omega⟩ dX2_isWord_50 (v := (f (x + 5))) (by rw [show (((x : Int) + 5)).toNat = (x + 5) by omega]; exact congrFun hf (x + 5)) ?_
              refine wp_aload_n dX2_isWord_51 rfl rfl ?_
              refine wp_iload_n dX2_isWord_52 rfl rfl ?_
              refine wp_callV0 (d' := d - 1) cv_RX2_25 1010 rfl [(0, 5)] [(0, (f (x + 5)))] rfl rfl (Or.inr ⟨by decide, by decide, rfl⟩) (by omega) (Nat.le_of_ble_eq_true rfl) dX2_isWord_53 rfl (Nat.le_of_ble_eq_true rfl) (by omega) (loc1 := [(2, 1010), (0, 5)]) rfl ?_
              refine sp_charAt_10 (by omega) (i := 5) (by decide) ?_
              refine wp_icmp_eq (tgt := 61) dX2_isWord_56 (by decide) (fun h56 => ?_) (fun h56 => ?_)
              · refine wp_iinc (loc' := [(2, 23), (2, 1010), (0, 6)]) dX2_isWord_61 rfl (by omega) rfl ?_
                refine wp_goto (tgt := 20) dX2_isWord_64 (by decide) ?_
                have e5 : f (x + 5) = byt 10 5 := h56
                refine wp_iload_n dX2_isWord_20 rfl rfl ?_
                refine wp_aload_n dX2_isWord_21 rfl rfl ?_
                refine wp_callV0 (d' := d - 1) cv_RX2_19 1010 rfl [] [(0, 6)] rfl rfl (Or.inr ⟨by decide, by decide, rfl⟩) (by omega) (Nat.le_of_ble_eq_true rfl) dX2_isWord_22 rfl (Nat.le_of_ble_eq_true rfl) (by omega) (loc1 := [(2, 1010)]) rfl ?_
                refine sp_slen_10 (by omega) ?_
                refine wp_icmp_ge (tgt := 67) dX2_isWord_25 (by decide) (fun _ => ?_) (fun h => absurd h (by decide))
                refine wp_iconst dX2_isWord_67 (by decide) ?_
                refine wp_zret rfl (by omega) dX2_isWord_68 ?_
                refine kt (decide_eq_true ⟨by show y = x + 6; omega, fun i hi => ?_⟩)
                have hi : i < 6 := hi
                match i, hi with
                | 0, _ => exact e0
                | 1, _ => exact e1
                | 2, _ => exact e2
                | 3, _ => exact e3
                | 4, _ => exact e4
                | 5, _ => exact e5
                | i + 6, hi => exact absurd hi (by omega)
              · refine wp_iconst dX2_isWord_59 (by decide) ?_
                refine wp_zret rfl (by omega) dX2_isWord_60 ?_
                exact kf (decide_eq_false (fun h => h56 (h.2 5 (by decide))))
            · refine wp_iconst dX2_isWord_59 (by decide) ?_
              refine wp_zret rfl (by omega) dX2_isWord_60 ?_
              exact kf (decide_eq_false (fun h => h56 (h.2 4 (by decide))))
          · refine wp_iconst dX2_isWord_59 (by decide) ?_
            refine wp_zret rfl (by omega) dX2_isWord_60 ?_
            exact kf (decide_eq_false (fun h => h56 (h.2 3 (by decide))))
        · refine wp_iconst dX2_isWord_59 (by decide) ?_
          refine wp_zret rfl (by omega) dX2_isWord_60 ?_
          exact kf (decide_eq_false (fun h => h56 (h.2 2 (by decide))))
      · refine wp_iconst dX2_isWord_59 (by decide) ?_
        refine wp_zret rfl (by omega) dX2_isWord_60 ?_
        exact kf (decide_eq_false (fun h => h56 (h.2 1 (by decide))))
    · refine wp_iconst dX2_isWord_59 (by decide) ?_
      refine wp_zret rfl (by omega) dX2_isWord_60 ?_
      exact kf (decide_eq_false (fun h => h56 (h.2 0 (by decide))))
  · refine wp_iconst dX2_isWord_16 (by decide) ?_
    refine wp_zret rfl (by omega) dX2_isWord_17 ?_
    exact kf (decide_eq_false (fun h => h13 (by have h1 : y = x + 6 := h.1; omega)))
set_option maxRecDepth 20000 in
set_option maxHeartbeats 4000000 in
theorem sp_isWord_11 {l : Launch} {g : Gw} {d n : Nat} {M : Mm} {Q : Option Wd → Mm → Prop} (hn : 60 ≤ n) {f : Nat → Int} {z : Int} (hP : TP M f z) (hd : 5 ≤ d) {x y : Nat} (hx : M 23 3 = (x : Int)) (hy : M 23 4 = (y : Int)) (hxy : x ≤ y) (hyz : (y : Int) ≤ z) (kt : wmB 11 f x y = true → Q (some (0, 1)) M) (kf : wmB 11 f x y = false → Q (some (0, 0)) M) : Wp l g d 0 0 n m_X2_isWord 0 [] [(2, 23), (2, 1011), (9, 0)] M Q := by
  obtain ⟨hR, hf, hz, hz0, hz1⟩ := id hP
  refine wp_aload_n dX2_isWord_0 rfl rfl ?_
  refine wp_callV0 (d' := d - 1) cv_RX2_19 1011 rfl [] [] rfl rfl (Or.inr ⟨by decide, by decide, rfl⟩) (by omega) (Nat.le_of_ble_eq_true rfl) dX2_isWord_1 rfl (Nat.le_of_ble_eq_true rfl) (by omega) (loc1 := [(2, 1011)]) rfl ?_
  refine sp_slen_11 (by omega) ?_
  refine wp_aload_n dX2_isWord_4 rfl rfl ?_
  refine wp_get 23 rfl fl_RX2_42 rfl ⟨by omega, by omega⟩ dX2_isWord_5 rfl (v := (y : Int)) (hy) ?_
  refine wp_aload_n dX2_isWord_8 rfl rfl ?_
  refine wp_get 23 rfl fl_RX2_64 rfl ⟨by omega, by omega⟩ dX2_isWord_9 rfl (v := (x : Int)) (hx) ?_
  refine wp_isub dX2_isWord_12 (by omega) ?_
  refine wp_icmp_eq (tgt := 18) dX2_isWord_13 (by decide) (fun h13 => ?_) (fun h13 => ?_)
  · refine wp_iconst dX2_isWord_18 (by decide) ?_
    refine wp_istore_n (loc' := [(2, 23), (2, 1011), (0, 0)]) dX2_isWord_19 rfl (Nat.le_of_ble_eq_true rfl) rfl ?_
    refine wp_iload_n dX2_isWord_20 rfl rfl ?_
    refine wp_aload_n dX2_isWord_21 rfl rfl ?_
    refine wp_callV0 (d' := d - 1) cv_RX2_19 1011 rfl [] [(0, 0)] rfl rfl (Or.inr ⟨by decide, by decide, rfl⟩) (by omega) (Nat.le_of_ble_eq_true rfl) dX2_isWord_22 rfl (Nat.le_of_ble_eq_true rfl) (by omega) (loc1 := [(2, 1011)]) rfl ?_
    refine sp_slen_11 (by omega) ?_
    refine wp_icmp_ge (tgt := 67) dX2_isWord_25 (by decide) (fun h => absurd h (by decide)) (fun _ => ?_)
    refine wp_aload_n dX2_isWord_28 rfl rfl ?_
    refine wp_get 23 rfl fl_RX2_64 rfl ⟨by omega, by omega⟩ dX2_isWord_29 rfl (v := (x : Int)) (hx) ?_
    refine wp_iload_n dX2_isWord_32 rfl rfl ?_
    refine wp_iadd dX2_isWord_33 (by omega) ?_
    refine wp_sipush dX2_isWord_34 (by decide) (by decide) ?_
    refine wp_icmp_ge (tgt := 67) dX2_isWord_37 (by decide) (fun h => absurd h (by omega)) (fun _ => ?_)
    refine wp_aload_n dX2_isWord_40 rfl rfl ?_
    refine wp_get 23 rfl fl_RX2_11 rfl ⟨by omega, by omega⟩ dX2_isWord_41 rfl (v := 24) (qr_23_0 (M := M) hR) ?_
    refine wp_aload_n dX2_isWord_44 rfl rfl ?_
    refine wp_get 23 rfl fl_RX2_64 rfl ⟨by omega, by omega⟩ dX2_isWord_45 rfl (v := (x : Int)) (hx) ?_
    refine wp_iload_n dX2_isWord_48 rfl rfl ?_
    refine wp_iadd dX2_isWord_49 (by omega) ?_
    refine wp_iald 24 rfl rfl ⟨by omega, by omega⟩ ⟨by omega, by omega⟩ dX2_isWord_50 (v := (f (x + 0))) (by rw [show (((x : Int) + 0)).toNat = (x + 0) by omega]; exact congrFun hf (x + 0)) ?_
    refine wp_aload_n dX2_isWord_51 rfl rfl ?_
    refine wp_iload_n dX2_isWord_52 rfl rfl ?_
    refine wp_callV0 (d' := d - 1) cv_RX2_25 1011 rfl [(0, 0)] [(0, (f (x + 0)))] rfl rfl (Or.inr ⟨by decide, by decide, rfl⟩) (by omega) (Nat.le_of_ble_eq_true rfl) dX2_isWord_53 rfl (Nat.le_of_ble_eq_true rfl) (by omega) (loc1 := [(2, 1011), (0, 0)]) rfl ?_
    refine sp_charAt_11 (by omega) (i := 0) (by decide) ?_
    refine wp_icmp_eq (tgt := 61) dX2_isWord_56 (by decide) (fun h56 => ?_) (fun h56 => ?_)
    · refine wp_iinc (loc' := [(2, 23), (2, 1011), (0, 1)]) dX2_isWord_61 rfl (by omega) rfl ?_
      refine wp_goto (tgt := 20) dX2_isWord_64 (by decide) ?_
      have e0 : f (x + 0) = byt 11 0 := h56
      refine wp_iload_n dX2_isWord_20 rfl rfl ?_
      refine wp_aload_n dX2_isWord_21 rfl rfl ?_
      refine wp_callV0 (d' := d - 1) cv_RX2_19 1011 rfl [] [(0, 1)] rfl rfl (Or.inr ⟨by decide, by decide, rfl⟩) (by omega) (Nat.le_of_ble_eq_true rfl) dX2_isWord_22 rfl (Nat.le_of_ble_eq_true rfl) (by omega) (loc1 := [(2, 1011)]) rfl ?_
      refine sp_slen_11 (by omega) ?_
      refine wp_icmp_ge (tgt := 67) dX2_isWord_25 (by decide) (fun h => absurd h (by decide)) (fun _ => ?_)
      refine wp_aload_n dX2_isWord_28 rfl rfl ?_
      refine wp_get 23 rfl fl_RX2_64 rfl ⟨by omega, by omega⟩ dX2_isWord_29 rfl (v := (x : Int)) (hx) ?_
      refine wp_iload_n dX2_isWord_32 rfl rfl ?_
      refine wp_iadd dX2_isWord_33 (by omega) ?_
      refine wp_sipush dX2_isWord_34 (by decide) (by decide) ?_
      refine wp_icmp_ge (tgt := 67) dX2_isWord_37 (by decide) (fun h => absurd h (by omega)) (fun _ => ?_)
      refine wp_aload_n dX2_isWord_40 rfl rfl ?_
      refine wp_get 23 rfl fl_RX2_11 rfl ⟨by omega, by omega⟩ dX2_isWord_41 rfl (v := 24) (qr_23_0 (M := M) hR) ?_
      refine wp_aload_n dX2_isWord_44 rfl rfl ?_
      refine wp_get 23 rfl fl_RX2_64 rfl ⟨by omega, by omega⟩ dX2_isWord_45 rfl (v := (x : Int)) (hx) ?_
      refine wp_iload_n dX2_isWord_48 rfl rfl ?_
      refine wp_iadd dX2_isWord_49 (by omega) ?_
      refine wp_iald 24 rfl rfl ⟨by omega, by omega⟩ ⟨by omega, by omega⟩ dX2_isWord_50 (v := (f (x + 1))) (by rw [show (((x : Int) + 1)).toNat = (x + 1) by omega]; exact congrFun hf (x + 1)) ?_
      refine wp_aload_n dX2_isWord_51 rfl rfl ?_
      refine wp_iload_n dX2_isWord_52 rfl rfl ?_
      refine wp_callV0 (d' := d - 1) cv_RX2_25 1011 rfl [(0, 1)] [(0, (f (x + 1)))] rfl rfl (Or.inr ⟨by decide, by decide, rfl⟩) (by omega) (Nat.le_of_ble_eq_true rfl) dX2_isWord_53 rfl (Nat.le_of_ble_eq_true rfl) (by omega) (loc1 := [(2, 1011), (0, 1)]) rfl ?_
      refine sp_charAt_11 (by omega) (i := 1) (by decide) ?_
      refine wp_icmp_eq (tgt := 61) dX2_isWord_56 (by decide) (fun h56 => ?_) (fun h56 => ?_)
      · refine wp_iinc (loc' := [(2, 23), (2, 1011), (0, 2)]) dX2_isWord_61 rfl (by omega) rfl ?_
        refine wp_goto (tgt := 20) dX2_isWord_64 (by decide) ?_
        have e1 : f (x + 1) = byt 11 1 := h56
        refine wp_iload_n dX2_isWord_20 rfl rfl ?_
        refine wp_aload_n dX2_isWord_21 rfl rfl ?_
        refine wp_callV0 (d' := d - 1) cv_RX2_19 1011 rfl [] [(0, 2)] rfl rfl (Or.inr ⟨by decide, by decide, rfl⟩) (by omega) (Nat.le_of_ble_eq_true rfl) dX2_isWord_22 rfl (Nat.le_of_ble_eq_true rfl) (by omega) (loc1 := [(2, 1011)]) rfl ?_
        refine sp_slen_11 (by omega) ?_
        refine wp_icmp_ge (tgt := 67) dX2_isWord_25 (by decide) (fun h => absurd h (by decide)) (fun _ => ?_)
        refine wp_aload_n dX2_isWord_28 rfl rfl ?_
        refine wp_get 23 rfl fl_RX2_64 rfl ⟨by omega, by omega⟩ dX2_isWord_29 rfl (v := (x : Int)) (hx) ?_
        refine wp_iload_n dX2_isWord_32 rfl rfl ?_
        refine wp_iadd dX2_isWord_33 (by omega) ?_
        refine wp_sipush dX2_isWord_34 (by decide) (by decide) ?_
        refine wp_icmp_ge (tgt := 67) dX2_isWord_37 (by decide) (fun h => absurd h (by omega)) (fun _ => ?_)
        refine wp_aload_n dX2_isWord_40 rfl rfl ?_
        refine wp_get 23 rfl fl_RX2_11 rfl ⟨by omega, by omega⟩ dX2_isWord_41 rfl (v := 24) (qr_23_0 (M := M) hR) ?_
        refine wp_aload_n dX2_isWord_44 rfl rfl ?_
        refine wp_get 23 rfl fl_RX2_64 rfl ⟨by omega, by omega⟩ dX2_isWord_45 rfl (v := (x : Int)) (hx) ?_
        refine wp_iload_n dX2_isWord_48 rfl rfl ?_
        refine wp_iadd dX2_isWord_49 (by omega) ?_
        refine wp_iald 24 rfl rfl ⟨by omega, by omega⟩ ⟨by omega, by omega⟩ dX2_isWord_50 (v := (f (x + 2))) (by rw [show (((x : Int) + 2)).toNat = (x + 2) by omega]; exact congrFun hf (x + 2)) ?_
        refine wp_aload_n dX2_isWord_51 rfl rfl ?_
        refine wp_iload_n dX2_isWord_52 rfl rfl ?_
        refine wp_callV0 (d' := d - 1) cv_RX2_25 1011 rfl [(0, 2)] [(0, (f (x + 2)))] rfl rfl (Or.inr ⟨by decide, by decide, rfl⟩) (by omega) (Nat.le_of_ble_eq_true rfl) dX2_isWord_53 rfl (Nat.le_of_ble_eq_true rfl) (by omega) (loc1 := [(2, 1011), (0, 2)]) rfl ?_
        refine sp_charAt_11 (by omega) (i := 2) (by decide) ?_
        refine wp_icmp_eq (tgt := 61) dX2_isWord_56 (by decide) (fun h56 => ?_) (fun h56 => ?_)
        · refine wp_iinc (loc' := [(2, 23), (2, 1011), (0, 3)]) dX2_isWord_61 rfl (by omega) rfl ?_
          refine wp_goto (tgt := 20) dX2_isWord_64 (by decide) ?_
          have e2 : f (x + 2) = byt 11 2 := h56
          refine wp_iload_n dX2_isWord_20 rfl rfl ?_
          refine wp_aload_n dX2_isWord_21 rfl rfl ?_
          refine wp_callV0 (d' := d - 1) cv_RX2_19 1011 rfl [] [(0, 3)] rfl rfl (Or.inr ⟨by decide, by decide, rfl⟩) (by omega) (Nat.le_of_ble_eq_true rfl) dX2_isWord_22 rfl (Nat.le_of_ble_eq_true rfl) (by omega) (loc1 := [(2, 1011)]) rfl ?_
          refine sp_slen_11 (by omega) ?_
          refine wp_icmp_ge (tgt := 67) dX2_isWord_25 (by decide) (fun h => absurd h (by decide)) (fun _ => ?_)
          refine wp_aload_n dX2_isWord_28 rfl rfl ?_
          refine wp_get 23 rfl fl_RX2_64 rfl ⟨by omega, by omega⟩ dX2_isWord_29 rfl (v := (x : Int)) (hx) ?_
          refine wp_iload_n dX2_isWord_32 rfl rfl ?_
          refine wp_iadd dX2_isWord_33 (by omega) ?_
          refine wp_sipush dX2_isWord_34 (by decide) (by decide) ?_
          refine wp_icmp_ge (tgt := 67) dX2_isWord_37 (by decide) (fun h => absurd h (by omega)) (fun _ => ?_)
          refine wp_aload_n dX2_isWord_40 rfl rfl ?_
          refine wp_get 23 rfl fl_RX2_11 rfl ⟨by omega, by omega⟩ dX2_isWord_41 rfl (v := 24) (qr_23_0 (M := M) hR) ?_
          refine wp_aload_n dX2_isWord_44 rfl rfl ?_
          refine wp_get 23 rfl fl_RX2_64 rfl ⟨by omega, by omega⟩ dX2_isWord_45 rfl (v := (x : Int)) (hx) ?_
          refine wp_iload_n dX2_isWord_48 rfl rfl ?_
          refine wp_iadd dX2_isWord_49 (by omega) ?_
          refine wp_iald 24 rfl rfl ⟨by omega, by omega⟩ ⟨by omega, by omega⟩ dX2_isWord_50 (v := (f (x + 3))) (by rw [show (((x : Int) + 3)).toNat = (x + 3) by omega]; exact congrFun hf (x + 3)) ?_
          refine wp_aload_n dX2_isWord_51 rfl rfl ?_
          refine wp_iload_n dX2_isWord_52 rfl rfl ?_
          refine wp_callV0 (d' := d - 1) cv_RX2_25 1011 rfl [(0, 3)] [(0, (f (x + 3)))] rfl rfl (Or.inr ⟨by decide, by decide, rfl⟩) (by omega) (Nat.le_of_ble_eq_true rfl) dX2_isWord_53 rfl (Nat.le_of_ble_eq_true rfl) (by omega) (loc1 := [(2, 1011), (0, 3)]) rfl ?_
          refine sp_charAt_11 (by omega) (i := 3) (by decide) ?_
          refine wp_icmp_eq (tgt := 61) dX2_isWord_56 (by decide) (fun h56 => ?_) (fun h56 => ?_)
          · refine wp_iinc (loc' := [(2, 23), (2, 1011), (0, 4)]) dX2_isWord_61 rfl (by omega) rfl ?_
            refine wp_goto (tgt := 20) dX2_isWord_64 (by decide) ?_
            have e3 : f (x + 3) = byt 11 3 := h56
            refine wp_iload_n dX2_isWord_20 rfl rfl ?_
            refine wp_aload_n dX2_isWord_21 rfl rfl ?_
            refine wp_callV0 (d' := d - 1) cv_RX2_19 1011 rfl [] [(0, 4)] rfl rfl (Or.inr ⟨by decide, by decide, rfl⟩) (by omega) (Nat.le_of_ble_eq_true rfl) dX2_isWord_22 rfl (Nat.le_of_ble_eq_true rfl) (by omega) (loc1 := [(2, 1011)]) rfl ?_
            refine sp_slen_11 (by omega) ?_
            refine wp_icmp_ge (tgt := 67) dX2_isWord_25 (by decide) (fun h => absurd h (by decide)) (fun _ => ?_)
            refine wp_aload_n dX2_isWord_28 rfl rfl ?_
            refine wp_get 23 rfl fl_RX2_64 rfl ⟨by omega, by omega⟩ dX2_isWord_29 rfl (v := (x : Int)) (hx) ?_
            refine wp_iload_n dX2_isWord_32 rfl rfl ?_
            refine wp_iadd dX2_isWord_33 (by omega) ?_
            refine wp_sipush dX2_isWord_34 (by decide) (by decide) ?_
            refine wp_icmp_ge (tgt := 67) dX2_isWord_37 (by decide) (fun h => absurd h (by omega)) (fun _ => ?_)
            refine wp_aload_n dX2_isWord_40 rfl rfl ?_
            refine wp_get 23 rfl fl_RX2_11 rfl ⟨by omega, by omega⟩ dX2_isWord_41 rfl (v := 24) (qr_23_0 (M := M) hR) ?_
            refine wp_aload_n dX2_isWord_44 rfl rfl ?_
            refine wp_get 23 rfl fl_RX2_64 rfl ⟨by omega, by omega⟩ dX2_isWord_45 rfl (v := (x : Int)) (hx) ?_
            refine wp_iload_n dX2_isWord_48 rfl rfl ?_
            refine wp_iadd dX2_isWord_49 (by omega) ?_
            refine wp_iald 24 rfl rfl ⟨by omega, by omega⟩ ⟨by omega, by omega⟩ dX2_isWord_50 (v := (f (x + 4))) (by rw [show (((x : Int) + 4)).toNat = (x + 4) by omega]; exact congrFun hf (x + 4)) ?_
            refine wp_aload_n dX2_isWord_51 rfl rfl ?_
            refine wp_iload_n dX2_isWord_52 rfl rfl ?_
            refine wp_callV0 (d' := d - 1) cv_RX2_25 1011 rfl [(0, 4)] [(0, (f (x + 4)))] rfl rfl (Or.inr ⟨by decide, by decide, rfl⟩) (by omega) (Nat.le_of_ble_eq_true rfl) dX2_isWord_53 rfl (Nat.le_of_ble_eq_true rfl) (by omega) (loc1 := [(2, 1011), (0, 4)]) rfl ?_
            refine sp_charAt_11 (by omega) (i := 4) (by decide) ?_
            refine wp_icmp_eq (tgt := 61) dX2_isWord_56 (by decide) (fun h56 => ?_) (fun h56 => ?_)
            · refine wp_iinc (loc' := [(2, 23), (2, 1011), (0, 5)]) dX2_isWord_61 rfl (by omega) rfl ?_
              refine wp_goto (tgt := 20) dX2_isWord_64 (by decide) ?_
              have e4 : f (x + 4) = byt 11 4 := h56
              refine wp_iload_n dX2_isWord_20 rfl rfl ?_
              refine wp_aload_n dX2_isWord_21 rfl rfl ?_
              refine wp_callV0 (d' := d - 1) cv_RX2_19 1011 rfl [] [(0, 5)] rfl rfl (Or.inr ⟨by decide, by decide, rfl⟩) (by omega) (Nat.le_of_ble_eq_true rfl) dX2_isWord_22 rfl (Nat.le_of_ble_eq_true rfl) (by omega) (loc1 := [(2, 1011)]) rfl ?_
              refine sp_slen_11 (by omega) ?_
              refine wp_icmp_ge (tgt := 67) dX2_isWord_25 (by decide) (fun _ => ?_) (fun h => absurd h (by decide))
              refine wp_iconst dX2_isWord_67 (by decide) ?_
              refine wp_zret rfl (by omega) dX2_isWord_68 ?_
              refine kt (decide_eq_true ⟨by show y = x + 5; omega, fun i hi => ?_⟩)
              have hi : i < 5 := hi
              match i, hi with
              | 0, _ => exact e0
              | 1, _ => exact e1
              | 2, _ => exact e2
              | 3, _ => exact e3
              | 4, _ => exact e4
              | i + 5, hi => exact absurd hi (by omega)
            · refine wp_iconst dX2_isWord_59 (by decide) ?_
              refine wp_zret rfl (by omega) dX2_isWord_60 ?_
              exact kf (decide_eq_false (fun h => h56 (h.2 4 (by decide))))
          · refine wp_iconst dX2_isWord_59 (by decide) ?_
            refine wp_zret rfl (by omega) dX2_isWord_60 ?_
            exact kf (decide_eq_false (fun h => h56 (h.2 3 (by decide))))
        · refine wp_iconst dX2_isWord_59 (by decide) ?_
          refine wp_zret rfl (by omega) dX2_isWord_60 ?_
          exact kf (decide_eq_false (fun h => h56 (h.2 2 (by decide))))
      · refine wp_iconst dX2_isWord_59 (by decide) ?_
        refine wp_zret rfl (by omega) dX2_isWord_60 ?_
        exact kf (decide_eq_false (fun h => h56 (h.2 1 (by decide))))
    · refine wp_iconst dX2_isWord_59 (by decide) ?_
      refine wp_zret rfl (by omega) dX2_isWord_60 ?_
      exact kf (decide_eq_false (fun h => h56 (h.2 0 (by decide))))
  · refine wp_iconst dX2_isWord_16 (by decide) ?_
    refine wp_zret rfl (by omega) dX2_isWord_17 ?_
    exact kf (decide_eq_false (fun h => h13 (by have h1 : y = x + 5 := h.1; omega)))
set_option maxRecDepth 20000 in
set_option maxHeartbeats 4000000 in
theorem sp_isWord_12 {l : Launch} {g : Gw} {d n : Nat} {M : Mm} {Q : Option Wd → Mm → Prop} (hn : 60 ≤ n) {f : Nat → Int} {z : Int} (hP : TP M f z) (hd : 5 ≤ d) {x y : Nat} (hx : M 23 3 = (x : Int)) (hy : M 23 4 = (y : Int)) (hxy : x ≤ y) (hyz : (y : Int) ≤ z) (kt : wmB 12 f x y = true → Q (some (0, 1)) M) (kf : wmB 12 f x y = false → Q (some (0, 0)) M) : Wp l g d 0 0 n m_X2_isWord 0 [] [(2, 23), (2, 1012), (9, 0)] M Q := by
  obtain ⟨hR, hf, hz, hz0, hz1⟩ := id hP
  refine wp_aload_n dX2_isWord_0 rfl rfl ?_
  refine wp_callV0 (d' := d - 1) cv_RX2_19 1012 rfl [] [] rfl rfl (Or.inr ⟨by decide, by decide, rfl⟩) (by omega) (Nat.le_of_ble_eq_true rfl) dX2_isWord_1 rfl (Nat.le_of_ble_eq_true rfl) (by omega) (loc1 := [(2, 1012)]) rfl ?_
  refine sp_slen_12 (by omega) ?_
  refine wp_aload_n dX2_isWord_4 rfl rfl ?_
  refine wp_get 23 rfl fl_RX2_42 rfl ⟨by omega, by omega⟩ dX2_isWord_5 rfl (v := (y : Int)) (hy) ?_
  refine wp_aload_n dX2_isWord_8 rfl rfl ?_
  refine wp_get 23 rfl fl_RX2_64 rfl ⟨by omega, by omega⟩ dX2_isWord_9 rfl (v := (x : Int)) (hx) ?_
  refine wp_isub dX2_isWord_12 (by omega) ?_
  refine wp_icmp_eq (tgt := 18) dX2_isWord_13 (by decide) (fun h13 => ?_) (fun h13 => ?_)
  · refine wp_iconst dX2_isWord_18 (by decide) ?_
    refine wp_istore_n (loc' := [(2, 23), (2, 1012), (0, 0)]) dX2_isWord_19 rfl (Nat.le_of_ble_eq_true rfl) rfl ?_
    refine wp_iload_n dX2_isWord_20 rfl rfl ?_
    refine wp_aload_n dX2_isWord_21 rfl rfl ?_
    refine wp_callV0 (d' := d - 1) cv_RX2_19 1012 rfl [] [(0, 0)] rfl rfl (Or.inr ⟨by decide, by decide, rfl⟩) (by omega) (Nat.le_of_ble_eq_true rfl) dX2_isWord_22 rfl (Nat.le_of_ble_eq_true rfl) (by omega) (loc1 := [(2, 1012)]) rfl ?_
    refine sp_slen_12 (by omega) ?_
    refine wp_icmp_ge (tgt := 67) dX2_isWord_25 (by decide) (fun h => absurd h (by decide)) (fun _ => ?_)
    refine wp_aload_n dX2_isWord_28 rfl rfl ?_
    refine wp_get 23 rfl fl_RX2_64 rfl ⟨by omega, by omega⟩ dX2_isWord_29 rfl (v := (x : Int)) (hx) ?_
    refine wp_iload_n dX2_isWord_32 rfl rfl ?_
    refine wp_iadd dX2_isWord_33 (by omega) ?_
    refine wp_sipush dX2_isWord_34 (by decide) (by decide) ?_
    refine wp_icmp_ge (tgt := 67) dX2_isWord_37 (by decide) (fun h => absurd h (by omega)) (fun _ => ?_)
    refine wp_aload_n dX2_isWord_40 rfl rfl ?_
    refine wp_get 23 rfl fl_RX2_11 rfl ⟨by omega, by omega⟩ dX2_isWord_41 rfl (v := 24) (qr_23_0 (M := M) hR) ?_
    refine wp_aload_n dX2_isWord_44 rfl rfl ?_
    refine wp_get 23 rfl fl_RX2_64 rfl ⟨by omega, by omega⟩ dX2_isWord_45 rfl (v := (x : Int)) (hx) ?_
    refine wp_iload_n dX2_isWord_48 rfl rfl ?_
    refine wp_iadd dX2_isWord_49 (by omega) ?_
    refine wp_iald 24 rfl rfl ⟨by omega, by omega⟩ ⟨by omega, by omega⟩ dX2_isWord_50 (v := (f (x + 0))) (by rw [show (((x : Int) + 0)).toNat = (x + 0) by omega]; exact congrFun hf (x + 0)) ?_
    refine wp_aload_n dX2_isWord_51 rfl rfl ?_
    refine wp_iload_n dX2_isWord_52 rfl rfl ?_
    refine wp_callV0 (d' := d - 1) cv_RX2_25 1012 rfl [(0, 0)] [(0, (f (x + 0)))] rfl rfl (Or.inr ⟨by decide, by decide, rfl⟩) (by omega) (Nat.le_of_ble_eq_true rfl) dX2_isWord_53 rfl (Nat.le_of_ble_eq_true rfl) (by omega) (loc1 := [(2, 1012), (0, 0)]) rfl ?_
    refine sp_charAt_12 (by omega) (i := 0) (by decide) ?_
    refine wp_icmp_eq (tgt := 61) dX2_isWord_56 (by decide) (fun h56 => ?_) (fun h56 => ?_)
    · refine wp_iinc (loc' := [(2, 23), (2, 1012), (0, 1)]) dX2_isWord_61 rfl (by omega) rfl ?_
      refine wp_goto (tgt := 20) dX2_isWord_64 (by decide) ?_
      have e0 : f (x + 0) = byt 12 0 := h56
      refine wp_iload_n dX2_isWord_20 rfl rfl ?_
      refine wp_aload_n dX2_isWord_21 rfl rfl ?_
      refine wp_callV0 (d' := d - 1) cv_RX2_19 1012 rfl [] [(0, 1)] rfl rfl (Or.inr ⟨by decide, by decide, rfl⟩) (by omega) (Nat.le_of_ble_eq_true rfl) dX2_isWord_22 rfl (Nat.le_of_ble_eq_true rfl) (by omega) (loc1 := [(2, 1012)]) rfl ?_
      refine sp_slen_12 (by omega) ?_
      refine wp_icmp_ge (tgt := 67) dX2_isWord_25 (by decide) (fun h => absurd h (by decide)) (fun _ => ?_)
      refine wp_aload_n dX2_isWord_28 rfl rfl ?_
      refine wp_get 23 rfl fl_RX2_64 rfl ⟨by omega, by omega⟩ dX2_isWord_29 rfl (v := (x : Int)) (hx) ?_
      refine wp_iload_n dX2_isWord_32 rfl rfl ?_
      refine wp_iadd dX2_isWord_33 (by omega) ?_
      refine wp_sipush dX2_isWord_34 (by decide) (by decide) ?_
      refine wp_icmp_ge (tgt := 67) dX2_isWord_37 (by decide) (fun h => absurd h (by omega)) (fun _ => ?_)
      refine wp_aload_n dX2_isWord_40 rfl rfl ?_
      refine wp_get 23 rfl fl_RX2_11 rfl ⟨by omega, by omega⟩ dX2_isWord_41 rfl (v := 24) (qr_23_0 (M := M) hR) ?_
      refine wp_aload_n dX2_isWord_44 rfl rfl ?_
      refine wp_get 23 rfl fl_RX2_64 rfl ⟨by omega, by omega⟩ dX2_isWord_45 rfl (v := (x : Int)) (hx) ?_
      refine wp_iload_n dX2_isWord_48 rfl rfl ?_
      refine wp_iadd dX2_isWord_49 (by omega) ?_
      refine wp_iald 24 rfl rfl ⟨by omega, by omega⟩ ⟨by omega, by omega⟩ dX2_isWord_50 (v := (f (x + 1))) (by rw [show (((x : Int) + 1)).toNat = (x + 1) by omega]; exact congrFun hf (x + 1)) ?_
      refine wp_aload_n dX2_isWord_51 rfl rfl ?_
      refine wp_iload_n dX2_isWord_52 rfl rfl ?_
      refine wp_callV0 (d' := d - 1) cv_RX2_25 1012 rfl [(0, 1)] [(0, (f (x + 1)))] rfl rfl (Or.inr ⟨by decide, by decide, rfl⟩) (by omega) (Nat.le_of_ble_eq_true rfl) dX2_isWord_53 rfl (Nat.le_of_ble_eq_true rfl) (by omega) (loc1 := [(2, 1012), (0, 1)]) rfl ?_
      refine sp_charAt_12 (by omega) (i := 1) (by decide) ?_
      refine wp_icmp_eq (tgt := 61) dX2_isWord_56 (by decide) (fun h56 => ?_) (fun h56 => ?_)
      · refine wp_iinc (loc' := [(2, 23), (2, 1012), (0, 2)]) dX2_isWord_61 rfl (by omega) rfl ?_
        refine wp_goto (tgt := 20) dX2_isWord_64 (by decide) ?_
        have e1 : f (x + 1) = byt 12 1 := h56
        refine wp_iload_n dX2_isWord_20 rfl rfl ?_
        refine wp_aload_n dX2_isWord_21 rfl rfl ?_
        refine wp_callV0 (d' := d - 1) cv_RX2_19 1012 rfl [] [(0, 2)] rfl rfl (Or.inr ⟨by decide, by decide, rfl⟩) (by omega) (Nat.le_of_ble_eq_true rfl) dX2_isWord_22 rfl (Nat.le_of_ble_eq_true rfl) (by omega) (loc1 := [(2, 1012)]) rfl ?_
        refine sp_slen_12 (by omega) ?_
        refine wp_icmp_ge (tgt := 67) dX2_isWord_25 (by decide) (fun h => absurd h (by decide)) (fun _ => ?_)
        refine wp_aload_n dX2_isWord_28 rfl rfl ?_
        refine wp_get 23 rfl fl_RX2_64 rfl ⟨by omega, by omega⟩ dX2_isWord_29 rfl (v := (x : Int)) (hx) ?_
        refine wp_iload_n dX2_isWord_32 rfl rfl ?_
        refine wp_iadd dX2_isWord_33 (by omega) ?_
        refine wp_sipush dX2_isWord_34 (by decide) (by decide) ?_
        refine wp_icmp_ge (tgt := 67) dX2_isWord_37 (by decide) (fun h => absurd h (by omega)) (fun _ => ?_)
        refine wp_aload_n dX2_isWord_40 rfl rfl ?_
        refine wp_get 23 rfl fl_RX2_11 rfl ⟨by omega, by omega⟩ dX2_isWord_41 rfl (v := 24) (qr_23_0 (M := M) hR) ?_
        refine wp_aload_n dX2_isWord_44 rfl rfl ?_
        refine wp_get 23 rfl fl_RX2_64 rfl ⟨by omega, by omega⟩ dX2_isWord_45 rfl (v := (x : Int)) (hx) ?_
        refine wp_iload_n dX2_isWord_48 rfl rfl ?_
        refine wp_iadd dX2_isWord_49 (by omega) ?_
        refine wp_iald 24 rfl rfl ⟨by omega, by omega⟩ ⟨by omega, by omega⟩ dX2_isWord_50 (v := (f (x + 2))) (by rw [show (((x : Int) + 2)).toNat = (x + 2) by omega]; exact congrFun hf (x + 2)) ?_
        refine wp_aload_n dX2_isWord_51 rfl rfl ?_
        refine wp_iload_n dX2_isWord_52 rfl rfl ?_
        refine wp_callV0 (d' := d - 1) cv_RX2_25 1012 rfl [(0, 2)] [(0, (f (x + 2)))] rfl rfl (Or.inr ⟨by decide, by decide, rfl⟩) (by omega) (Nat.le_of_ble_eq_true rfl) dX2_isWord_53 rfl (Nat.le_of_ble_eq_true rfl) (by omega) (loc1 := [(2, 1012), (0, 2)]) rfl ?_
        refine sp_charAt_12 (by omega) (i := 2) (by decide) ?_
        refine wp_icmp_eq (tgt := 61) dX2_isWord_56 (by decide) (fun h56 => ?_) (fun h56 => ?_)
        · refine wp_iinc (loc' := [(2, 23), (2, 1012), (0, 3)]) dX2_isWord_61 rfl (by omega) rfl ?_
          refine wp_goto (tgt := 20) dX2_isWord_64 (by decide) ?_
          have e2 : f (x + 2) = byt 12 2 := h56
          refine wp_iload_n dX2_isWord_20 rfl rfl ?_
          refine wp_aload_n dX2_isWord_21 rfl rfl ?_
          refine wp_callV0 (d' := d - 1) cv_RX2_19 1012 rfl [] [(0, 3)] rfl rfl (Or.inr ⟨by decide, by decide, rfl⟩) (by omega) (Nat.le_of_ble_eq_true rfl) dX2_isWord_22 rfl (Nat.le_of_ble_eq_true rfl) (by omega) (loc1 := [(2, 1012)]) rfl ?_
          refine sp_slen_12 (by omega) ?_
          refine wp_icmp_ge (tgt := 67) dX2_isWord_25 (by decide) (fun h => absurd h (by decide)) (fun _ => ?_)
          refine wp_aload_n dX2_isWord_28 rfl rfl ?_
          refine wp_get 23 rfl fl_RX2_64 rfl ⟨by omega, by omega⟩ dX2_isWord_29 rfl (v := (x : Int)) (hx) ?_
          refine wp_iload_n dX2_isWord_32 rfl rfl ?_
          refine wp_iadd dX2_isWord_33 (by omega) ?_
          refine wp_sipush dX2_isWord_34 (by decide) (by decide) ?_
          refine wp_icmp_ge (tgt := 67) dX2_isWord_37 (by decide) (fun h => absurd h (by omega)) (fun _ => ?_)
          refine wp_aload_n dX2_isWord_40 rfl rfl ?_
          refine wp_get 23 rfl fl_RX2_11 rfl ⟨by omega, by omega⟩ dX2_isWord_41 rfl (v := 24) (qr_23_0 (M := M) hR) ?_
          refine wp_aload_n dX2_isWord_44 rfl rfl ?_
          refine wp_get 23 rfl fl_RX2_64 rfl ⟨by omega, by omega⟩ dX2_isWord_45 rfl (v := (x : Int)) (hx) ?_
          refine wp_iload_n dX2_isWord_48 rfl rfl ?_
          refine wp_iadd dX2_isWord_49 (by omega) ?_
          refine wp_iald 24 rfl rfl ⟨by omega, by omega⟩ ⟨by omega, by omega⟩ dX2_isWord_50 (v := (f (x + 3))) (by rw [show (((x : Int) + 3)).toNat = (x + 3) by omega]; exact congrFun hf (x + 3)) ?_
          refine wp_aload_n dX2_isWord_51 rfl rfl ?_
          refine wp_iload_n dX2_isWord_52 rfl rfl ?_
          refine wp_callV0 (d' := d - 1) cv_RX2_25 1012 rfl [(0, 3)] [(0, (f (x + 3)))] rfl rfl (Or.inr ⟨by decide, by decide, rfl⟩) (by omega) (Nat.le_of_ble_eq_true rfl) dX2_isWord_53 rfl (Nat.le_of_ble_eq_true rfl) (by omega) (loc1 := [(2, 1012), (0, 3)]) rfl ?_
          refine sp_charAt_12 (by omega) (i := 3) (by decide) ?_
          refine wp_icmp_eq (tgt := 61) dX2_isWord_56 (by decide) (fun h56 => ?_) (fun h56 => ?_)
          · refine wp_iinc (loc' := [(2, 23), (2, 1012), (0, 4)]) dX2_isWord_61 rfl (by omega) rfl ?_
            refine wp_goto (tgt := 20) dX2_isWord_64 (by decide) ?_
            have e3 : f (x + 3) = byt 12 3 := h56
            refine wp_iload_n dX2_isWord_20 rfl rfl ?_
            refine wp_aload_n dX2_isWord_21 rfl rfl ?_
            refine wp_callV0 (d' := d - 1) cv_RX2_19 1012 rfl [] [(0, 4)] rfl rfl (Or.inr ⟨by decide, by decide, rfl⟩) (by omega) (Nat.le_of_ble_eq_true rfl) dX2_isWord_22 rfl (Nat.le_of_ble_eq_true rfl) (by omega) (loc1 := [(2, 1012)]) rfl ?_
            refine sp_slen_12 (by omega) ?_
            refine wp_icmp_ge (tgt := 67) dX2_isWord_25 (by decide) (fun h => absurd h (by decide)) (fun _ => ?_)
            refine wp_aload_n dX2_isWord_28 rfl rfl ?_
            refine wp_get 23 rfl fl_RX2_64 rfl ⟨by omega, by omega⟩ dX2_isWord_29 rfl (v := (x : Int)) (hx) ?_
            refine wp_iload_n dX2_isWord_32 rfl rfl ?_
            refine wp_iadd dX2_isWord_33 (by omega) ?_
            refine wp_sipush dX2_isWord_34 (by decide) (by decide) ?_
            refine wp_icmp_ge (tgt := 67) dX2_isWord_37 (by decide) (fun h => absurd h (by omega)) (fun _ => ?_)
            refine wp_aload_n dX2_isWord_40 rfl rfl ?_
            refine wp_get 23 rfl fl_RX2_11 rfl ⟨by omega, by omega⟩ dX2_isWord_41 rfl (v := 24) (qr_23_0 (M := M) hR) ?_
            refine wp_aload_n dX2_isWord_44 rfl rfl ?_
            refine wp_get 23 rfl fl_RX2_64 rfl ⟨by omega, by omega⟩ dX2_isWord_45 rfl (v := (x : Int)) (hx) ?_
            refine wp_iload_n dX2_isWord_48 rfl rfl ?_
            refine wp_iadd dX2_isWord_49 (by omega) ?_
            refine wp_iald 24 rfl rfl ⟨by omega, by omega⟩ ⟨by omega, by omega⟩ dX2_isWord_50 (v := (f (x + 4))) (by rw [show (((x : Int) + 4)).toNat = (x + 4) by omega]; exact congrFun hf (x + 4)) ?_
            refine wp_aload_n dX2_isWord_51 rfl rfl ?_
            refine wp_iload_n dX2_isWord_52 rfl rfl ?_
            refine wp_callV0 (d' := d - 1) cv_RX2_25 1012 rfl [(0, 4)] [(0, (f (x + 4)))] rfl rfl (Or.inr ⟨by decide, by decide, rfl⟩) (by omega) (Nat.le_of_ble_eq_true rfl) dX2_isWord_53 rfl (Nat.le_of_ble_eq_true rfl) (by omega) (loc1 := [(2, 1012), (0, 4)]) rfl ?_
            refine sp_charAt_12 (by omega) (i := 4) (by decide) ?_
            refine wp_icmp_eq (tgt := 61) dX2_isWord_56 (by decide) (fun h56 => ?_) (fun h56 => ?_)
            · refine wp_iinc (loc' := [(2, 23), (2, 1012), (0, 5)]) dX2_isWord_61 rfl (by omega) rfl ?_
              refine wp_goto (tgt := 20) dX2_isWord_64 (by decide) ?_
              have e4 : f (x + 4) = byt 12 4 := h56
              refine wp_iload_n dX2_isWord_20 rfl rfl ?_
              refine wp_aload_n dX2_isWord_21 rfl rfl ?_
              refine wp_callV0 (d' := d - 1) cv_RX2_19 1012 rfl [] [(0, 5)] rfl rfl (Or.inr ⟨by decide, by decide, rfl⟩) (by omega) (Nat.le_of_ble_eq_true rfl) dX2_isWord_22 rfl (Nat.le_of_ble_eq_true rfl) (by omega) (loc1 := [(2, 1012)]) rfl ?_
              refine sp_slen_12 (by omega) ?_
              refine wp_icmp_ge (tgt := 67) dX2_isWord_25 (by decide) (fun h => absurd h (by decide)) (fun _ => ?_)
              refine wp_aload_n dX2_isWord_28 rfl rfl ?_
              refine wp_get 23 rfl fl_RX2_64 rfl ⟨by omega, by omega⟩ dX2_isWord_29 rfl (v := (x : Int)) (hx) ?_
              refine wp_iload_n dX2_isWord_32 rfl rfl ?_
              refine wp_iadd dX2_isWord_33 (by omega) ?_
              refine wp_sipush dX2_isWord_34 (by decide) (by decide) ?_
              refine wp_icmp_ge (tgt := 67) dX2_isWord_37 (by decide) (fun h => absurd h (by omega)) (fun _ => ?_)
              refine wp_aload_n dX2_isWord_40 rfl rfl ?_
              refine wp_get 23 rfl fl_RX2_11 rfl ⟨by omega, by omega⟩ dX2_isWord_41 rfl (v := 24) (qr_23_0 (M := M) hR) ?_
              refine wp_aload_n dX2_isWord_44 rfl rfl ?_
              refine wp_get 23 rfl fl_RX2_64 rfl ⟨by omega, by omega⟩ dX2_isWord_45 rfl (v := (x : Int)) (hx) ?_
              refine wp_iload_n dX2_isWord_48 rfl rfl ?_
              refine wp_iadd dX2_isWord_49 (by omega) ?_
              refine wp_iald 24 rfl rfl ⟨by omega, by omega⟩ ⟨by omega, by omega⟩ dX2_isWord_50 (v := (f (x + 5))) (by rw [show (((x : Int) + 5)).toNat = (x + 5) by omega]; exact congrFun hf (x + 5)) ?_
              refine wp_aload_n dX2_isWord_51 rfl rfl ?_
              refine wp_iload_n dX2_isWord_52 rfl rfl ?_
              refine wp_callV0 (d' := d - 1) cv_RX2_25 1012 rfl [(0, 5)] [(0, (f (x + 5)))] rfl rfl (Or.inr ⟨by decide, by decide, rfl⟩) (by omega) (Nat.le_of_ble_eq_true rfl) dX2_isWord_53 rfl (Nat.le_of_ble_eq_true rfl) (by omega) (loc1 := [(2, 1012), (0, 5)]) rfl ?_
              refine sp_charAt_12 (by omega) (i := 5) (by decide) ?_
              refine wp_icmp_eq (tgt := 61) dX2_isWord_56 (by decide) (fun h56 => ?_) (fun h56 => ?_)
              · refine wp_iinc (loc' := [(2, 23), (2, 1012), (0, 6)]) dX2_isWord_61 rfl (by omega) rfl ?_
                refine wp_goto (tgt := 20) dX2_isWord_64 (by decide) ?_
                have e5 : f (x + 5) = byt 12 5 := h56
                refine wp_iload_n dX2_isWord_20 rfl rfl ?_
                refine wp_aload_n dX2_isWord_21 rfl rfl ?_
                refine wp_callV0 (d' := d - 1) cv_RX2_19 1012 rfl [] [(0, 6)] rfl rfl (Or.inr ⟨by decide, by decide, rfl⟩) (by omega) (Nat.le_of_ble_eq_true rfl) dX2_isWord_22 rfl (Nat.le_of_ble_eq_true rfl) (by omega) (loc1 := [(2, 1012)]) rfl ?_
                refine sp_slen_12 (by omega) ?_
                refine wp_icmp_ge (tgt := 67) dX2_isWord_25 (by decide) (fun _ => ?_) (fun h => absurd h (by decide))
                refine wp_iconst dX2_isWord_67 (by decide) ?_
                refine wp_zret rfl (by omega) dX2_isWord_68 ?_
                refine kt (decide_eq_true ⟨by show y = x + 6; omega, fun i hi => ?_⟩)
                have hi : i < 6 := hi
                match i, hi with
                | 0, _ => exact e0
                | 1, _ => exact e1
                | 2, _ => exact e2
                | 3, _ => exact e3
                | 4, _ => exact e4
                | 5, _ => exact e5
                | i + 6, hi => exact absurd hi (by omega)
              · refine wp_iconst dX2_isWord_59 (by decide) ?_
                refine wp_zret rfl (by omega) dX2_isWord_60 ?_
                exact kf (decide_eq_false (fun h => h56 (h.2 5 (by decide))))
            · refine wp_iconst dX2_isWord_59 (by decide) ?_
              refine wp_zret rfl (by omega) dX2_isWord_60 ?_
              exact kf (decide_eq_false (fun h => h56 (h.2 4 (by decide))))
          · refine wp_iconst dX2_isWord_59 (by decide) ?_
            refine wp_zret rfl (by omega) dX2_isWord_60 ?_
            exact kf (decide_eq_false (fun h => h56 (h.2 3 (by decide))))
        · refine wp_iconst dX2_isWord_59 (by decide) ?_
          refine wp_zret rfl (by omega) dX2_isWord_60 ?_
          exact kf (decide_eq_false (fun h => h56 (h.2 2 (by decide))))
      · refine wp_iconst dX2_isWord_59 (by decide) ?_
        refine wp_zret rfl (by omega) dX2_isWord_60 ?_
        exact kf (decide_eq_false (fun h => h56 (h.2 1 (by decide))))
    · refine wp_iconst dX2_isWord_59 (by decide) ?_
      refine wp_zret rfl (by omega) dX2_isWord_60 ?_
      exact kf (decide_eq_false (fun h => h56 (h.2 0 (by decide))))
  · refine wp_iconst dX2_isWord_16 (by decide) ?_
    refine wp_zret rfl (by omega) dX2_isWord_17 ?_
    exact kf (decide_eq_false (fun h => h13 (by have h1 : y = x + 6 := h.1; omega)))
set_option maxRecDepth 20000 in
set_option maxHeartbeats 4000000 in
theorem tw_12 {l : Launch} {g : Gw} {d n : Nat} {M : Mm} {Q : Option Wd → Mm → Prop} (hn : 60 ≤ n) {f : Nat → Int} {z : Int} (hP : TP M f z) (hd : 6 ≤ d) {x y : Nat} (hx : M 23 3 = (x : Int)) (hy : M 23 4 = (y : Int)) (hxy : x ≤ y) (hyz : (y : Int) ≤ z) (ht : M 23 5 = wdT f x y 12) (kk : ∀ M', Fr VR5 M M' → M' 23 5 = wdT f x y 12 → Q none M') : Wp l g d 0 0 n m_X2_takeWord 46 [] [(2, 23), (0, 12)] M Q := by
  obtain ⟨hR, hf, hz, hz0, hz1⟩ := id hP
  refine wp_iload_n dX2_takeWord_46 rfl rfl ?_
  refine wp_bipush dX2_takeWord_47 (by decide) (by decide) ?_
  refine wp_icmp_ge (tgt := 78) dX2_takeWord_49 (by decide) (fun _ => ?_) (fun h => absurd h (by decide))
  refine wp_vret rfl dX2_takeWord_78 ?_
  exact kk M Fr.rf ht
set_option maxRecDepth 20000 in
set_option maxHeartbeats 4000000 in
theorem tw_11 {l : Launch} {g : Gw} {d n : Nat} {M : Mm} {Q : Option Wd → Mm → Prop} (hn : 60 ≤ n) {f : Nat → Int} {z : Int} (hP : TP M f z) (hd : 6 ≤ d) {x y : Nat} (hx : M 23 3 = (x : Int)) (hy : M 23 4 = (y : Int)) (hxy : x ≤ y) (hyz : (y : Int) ≤ z) (ht : M 23 5 = wdT f x y 11) (kk : ∀ M', Fr VR5 M M' → M' 23 5 = wdT f x y 12 → Q none M') : Wp l g d 0 0 n m_X2_takeWord 46 [] [(2, 23), (0, 11)] M Q := by
  obtain ⟨hR, hf, hz, hz0, hz1⟩ := id hP
  refine wp_iload_n dX2_takeWord_46 rfl rfl ?_
  refine wp_bipush dX2_takeWord_47 (by decide) (by decide) ?_
  refine wp_icmp_ge (tgt := 78) dX2_takeWord_49 (by decide) (fun h => absurd h (by decide)) (fun _ => ?_)
  refine wp_aload_n dX2_takeWord_52 rfl rfl ?_
  refine wp_iload_n dX2_takeWord_53 rfl rfl ?_
  refine wp_callS0 (d' := d - 1) cs_RX2_123 [(0, 11)] [(2, 23)] rfl rfl (Nat.le_of_ble_eq_true rfl) dX2_takeWord_54 rfl (Nat.le_of_ble_eq_true rfl) (by omega) (loc1 := [(0, 11)]) rfl ?_
  refine wp_iload_n dX2_wordOf_0 rfl rfl ?_
  refine wp_tabOut dX2_wordOf_1 (by decide) (tgt := 93) (by decide) ?_
  refine wp_ldcS 12 rfl dX2_wordOf_93 (x := 1012) rfl ?_
  refine wp_aret rfl (Or.inl ⟨_, rfl⟩) dX2_wordOf_95 ?_
  refine wp_callV0 (d' := d - 1) cv_RX2_127 23 rfl [(2, 1012)] [] rfl rfl (Or.inl ⟨_, _, rfl, by decide, rfl, by omega, by omega⟩) (by omega) (Nat.le_of_ble_eq_true rfl) dX2_takeWord_57 rfl (Nat.le_of_ble_eq_true rfl) (by omega) (loc1 := [(2, 23), (2, 1012), (9, 0)]) rfl ?_
  refine sp_isWord_12 hn hP (by omega) hx hy hxy hyz (fun hc => ?_) (fun hc => ?_)
  · refine wp_if_eq (tgt := 72) dX2_takeWord_60 (by decide) (fun h => absurd h (by decide)) (fun _ => ?_)
    refine wp_aload_n dX2_takeWord_63 rfl rfl ?_
    refine wp_sipush dX2_takeWord_64 (by decide) (by decide) ?_
    refine wp_iload_n dX2_takeWord_67 rfl rfl ?_
    refine wp_iadd dX2_takeWord_68 (by omega) ?_
    refine wp_puti 23 rfl fl_RX2_67 rfl ⟨by omega, by omega⟩ dX2_takeWord_69 rfl rfl ?_
    refine wp_iinc (loc' := [(2, 23), (0, 12)]) dX2_takeWord_72 rfl (by omega) rfl ?_
    refine wp_goto (tgt := 46) dX2_takeWord_75 (by decide) ?_
    have f1 : Fr VR5 M (mu M 23 5 267) := Fr.rf.put ⟨rfl, rfl⟩
    exact tw_12 hn (hP.fr (f1.mono VR5.r)) hd (show _ from hx) (show _ from hy) hxy hyz (show _ from (if_pos hc).symm) (fun M2 a1 a2 => kk M2 (f1.tr a1) a2)
  · refine wp_if_eq (tgt := 72) dX2_takeWord_60 (by decide) (fun _ => ?_) (fun h => absurd h (by decide))
    refine wp_iinc (loc' := [(2, 23), (0, 12)]) dX2_takeWord_72 rfl (by omega) rfl ?_
    refine wp_goto (tgt := 46) dX2_takeWord_75 (by decide) ?_
    exact tw_12 hn hP hd hx hy hxy hyz (ht.trans (if_neg (by rw [hc]; decide)).symm) kk
set_option maxRecDepth 20000 in
set_option maxHeartbeats 4000000 in
theorem tw_10 {l : Launch} {g : Gw} {d n : Nat} {M : Mm} {Q : Option Wd → Mm → Prop} (hn : 60 ≤ n) {f : Nat → Int} {z : Int} (hP : TP M f z) (hd : 6 ≤ d) {x y : Nat} (hx : M 23 3 = (x : Int)) (hy : M 23 4 = (y : Int)) (hxy : x ≤ y) (hyz : (y : Int) ≤ z) (ht : M 23 5 = wdT f x y 10) (kk : ∀ M', Fr VR5 M M' → M' 23 5 = wdT f x y 12 → Q none M') : Wp l g d 0 0 n m_X2_takeWord 46 [] [(2, 23), (0, 10)] M Q := by
  obtain ⟨hR, hf, hz, hz0, hz1⟩ := id hP
  refine wp_iload_n dX2_takeWord_46 rfl rfl ?_
  refine wp_bipush dX2_takeWord_47 (by decide) (by decide) ?_
  refine wp_icmp_ge (tgt := 78) dX2_takeWord_49 (by decide) (fun h => absurd h (by decide)) (fun _ => ?_)
  refine wp_aload_n dX2_takeWord_52 rfl rfl ?_
  refine wp_iload_n dX2_takeWord_53 rfl rfl ?_
  refine wp_callS0 (d' := d - 1) cs_RX2_123 [(0, 10)] [(2, 23)] rfl rfl (Nat.le_of_ble_eq_true rfl) dX2_takeWord_54 rfl (Nat.le_of_ble_eq_true rfl) (by omega) (loc1 := [(0, 10)]) rfl ?_
  refine wp_iload_n dX2_wordOf_0 rfl rfl ?_
  refine wp_tabIn dX2_wordOf_1 10 rfl (by decide) rfl (tgt := 90) (by decide) ?_
  refine wp_ldcS 11 rfl dX2_wordOf_90 (x := 1011) rfl ?_
  refine wp_aret rfl (Or.inl ⟨_, rfl⟩) dX2_wordOf_92 ?_
  refine wp_callV0 (d' := d - 1) cv_RX2_127 23 rfl [(2, 1011)] [] rfl rfl (Or.inl ⟨_, _, rfl, by decide, rfl, by omega, by omega⟩) (by omega) (Nat.le_of_ble_eq_true rfl) dX2_takeWord_57 rfl (Nat.le_of_ble_eq_true rfl) (by omega) (loc1 := [(2, 23), (2, 1011), (9, 0)]) rfl ?_
  refine sp_isWord_11 hn hP (by omega) hx hy hxy hyz (fun hc => ?_) (fun hc => ?_)
  · refine wp_if_eq (tgt := 72) dX2_takeWord_60 (by decide) (fun h => absurd h (by decide)) (fun _ => ?_)
    refine wp_aload_n dX2_takeWord_63 rfl rfl ?_
    refine wp_sipush dX2_takeWord_64 (by decide) (by decide) ?_
    refine wp_iload_n dX2_takeWord_67 rfl rfl ?_
    refine wp_iadd dX2_takeWord_68 (by omega) ?_
    refine wp_puti 23 rfl fl_RX2_67 rfl ⟨by omega, by omega⟩ dX2_takeWord_69 rfl rfl ?_
    refine wp_iinc (loc' := [(2, 23), (0, 11)]) dX2_takeWord_72 rfl (by omega) rfl ?_
    refine wp_goto (tgt := 46) dX2_takeWord_75 (by decide) ?_
    have f1 : Fr VR5 M (mu M 23 5 266) := Fr.rf.put ⟨rfl, rfl⟩
    exact tw_11 hn (hP.fr (f1.mono VR5.r)) hd (show _ from hx) (show _ from hy) hxy hyz (show _ from (if_pos hc).symm) (fun M2 a1 a2 => kk M2 (f1.tr a1) a2)
  · refine wp_if_eq (tgt := 72) dX2_takeWord_60 (by decide) (fun _ => ?_) (fun h => absurd h (by decide))
    refine wp_iinc (loc' := [(2, 23), (0, 11)]) dX2_takeWord_72 rfl (by omega) rfl ?_
    refine wp_goto (tgt := 46) dX2_takeWord_75 (by decide) ?_
    exact tw_11 hn hP hd hx hy hxy hyz (ht.trans (if_neg (by rw [hc]; decide)).symm) kk
set_option maxRecDepth 20000 in
set_option maxHeartbeats 4000000 in
theorem tw_9 {l : Launch} {g : Gw} {d n : Nat} {M : Mm} {Q : Option Wd → Mm → Prop} (hn : 60 ≤ n) {f : Nat → Int} {z : Int} (hP : TP M f z) (hd : 6 ≤ d) {x y : Nat} (hx : M 23 3 = (x : Int)) (hy : M 23 4 = (y : Int)) (hxy : x ≤ y) (hyz : (y : Int) ≤ z) (ht : M 23 5 = wdT f x y 9) (kk : ∀ M', Fr VR5 M M' → M' 23 5 = wdT f x y 12 → Q none M') : Wp l g d 0 0 n m_X2_takeWord 46 [] [(2, 23), (0, 9)] M Q := by
  obtain ⟨hR, hf, hz, hz0, hz1⟩ := id hP
  refine wp_iload_n dX2_takeWord_46 rfl rfl ?_
  refine wp_bipush dX2_takeWord_47 (by decide) (by decide) ?_
  refine wp_icmp_ge (tgt := 78) dX2_takeWord_49 (by decide) (fun h => absurd h (by decide)) (fun _ => ?_)
  refine wp_aload_n dX2_takeWord_52 rfl rfl ?_
  refine wp_iload_n dX2_takeWord_53 rfl rfl ?_
  refine wp_callS0 (d' := d - 1) cs_RX2_123 [(0, 9)] [(2, 23)] rfl rfl (Nat.le_of_ble_eq_true rfl) dX2_takeWord_54 rfl (Nat.le_of_ble_eq_true rfl) (by omega) (loc1 := [(0, 9)]) rfl ?_
  refine wp_iload_n dX2_wordOf_0 rfl rfl ?_
  refine wp_tabIn dX2_wordOf_1 9 rfl (by decide) rfl (tgt := 87) (by decide) ?_
  refine wp_ldcS 10 rfl dX2_wordOf_87 (x := 1010) rfl ?_
  refine wp_aret rfl (Or.inl ⟨_, rfl⟩) dX2_wordOf_89 ?_
  refine wp_callV0 (d' := d - 1) cv_RX2_127 23 rfl [(2, 1010)] [] rfl rfl (Or.inl ⟨_, _, rfl, by decide, rfl, by omega, by omega⟩) (by omega) (Nat.le_of_ble_eq_true rfl) dX2_takeWord_57 rfl (Nat.le_of_ble_eq_true rfl) (by omega) (loc1 := [(2, 23), (2, 1010), (9, 0)]) rfl ?_
  refine sp_isWord_10 hn hP (by omega) hx hy hxy hyz (fun hc => ?_) (fun hc => ?_)
  · refine wp_if_eq (tgt := 72) dX2_takeWord_60 (by decide) (fun h => absurd h (by decide)) (fun _ => ?_)
    refine wp_aload_n dX2_takeWord_63 rfl rfl ?_
    refine wp_sipush dX2_takeWord_64 (by decide) (by decide) ?_
    refine wp_iload_n dX2_takeWord_67 rfl rfl ?_
    refine wp_iadd dX2_takeWord_68 (by omega) ?_
    refine wp_puti 23 rfl fl_RX2_67 rfl ⟨by omega, by omega⟩ dX2_takeWord_69 rfl rfl ?_
    refine wp_iinc (loc' := [(2, 23), (0, 10)]) dX2_takeWord_72 rfl (by omega) rfl ?_
    refine wp_goto (tgt := 46) dX2_takeWord_75 (by decide) ?_
    have f1 : Fr VR5 M (mu M 23 5 265) := Fr.rf.put ⟨rfl, rfl⟩
    exact tw_10 hn (hP.fr (f1.mono VR5.r)) hd (show _ from hx) (show _ from hy) hxy hyz (show _ from (if_pos hc).symm) (fun M2 a1 a2 => kk M2 (f1.tr a1) a2)
  · refine wp_if_eq (tgt := 72) dX2_takeWord_60 (by decide) (fun _ => ?_) (fun h => absurd h (by decide))
    refine wp_iinc (loc' := [(2, 23), (0, 10)]) dX2_takeWord_72 rfl (by omega) rfl ?_
    refine wp_goto (tgt := 46) dX2_takeWord_75 (by decide) ?_
    exact tw_10 hn hP hd hx hy hxy hyz (ht.trans (if_neg (by rw [hc]; decide)).symm) kk
set_option maxRecDepth 20000 in
set_option maxHeartbeats 4000000 in
theorem tw_8 {l : Launch} {g : Gw} {d n : Nat} {M : Mm} {Q : Option Wd → Mm → Prop} (hn : 60 ≤ n) {f : Nat → Int} {z : Int} (hP : TP M f z) (hd : 6 ≤ d) {x y : Nat} (hx : M 23 3 = (x : Int)) (hy : M 23 4 = (y : Int)) (hxy : x ≤ y) (hyz : (y : Int) ≤ z) (ht : M 23 5 = wdT f x y 8) (kk : ∀ M', Fr VR5 M M' → M' 23 5 = wdT f x y 12 → Q none M') : Wp l g d 0 0 n m_X2_takeWord 46 [] [(2, 23), (0, 8)] M Q := by
  obtain ⟨hR, hf, hz, hz0, hz1⟩ := id hP
  refine wp_iload_n dX2_takeWord_46 rfl rfl ?_
  refine wp_bipush dX2_takeWord_47 (by decide) (by decide) ?_
  refine wp_icmp_ge (tgt := 78) dX2_takeWord_49 (by decide) (fun h => absurd h (by decide)) (fun _ => ?_)
  refine wp_aload_n dX2_takeWord_52 rfl rfl ?_
  refine wp_iload_n dX2_takeWord_53 rfl rfl ?_
  refine wp_callS0 (d' := d - 1) cs_RX2_123 [(0, 8)] [(2, 23)] rfl rfl (Nat.le_of_ble_eq_true rfl) dX2_takeWord_54 rfl (Nat.le_of_ble_eq_true rfl) (by omega) (loc1 := [(0, 8)]) rfl ?_
  refine wp_iload_n dX2_wordOf_0 rfl rfl ?_
  refine wp_tabIn dX2_wordOf_1 8 rfl (by decide) rfl (tgt := 84) (by decide) ?_
  refine wp_ldcS 9 rfl dX2_wordOf_84 (x := 1009) rfl ?_
  refine wp_aret rfl (Or.inl ⟨_, rfl⟩) dX2_wordOf_86 ?_
  refine wp_callV0 (d' := d - 1) cv_RX2_127 23 rfl [(2, 1009)] [] rfl rfl (Or.inl ⟨_, _, rfl, by decide, rfl, by omega, by omega⟩) (by omega) (Nat.le_of_ble_eq_true rfl) dX2_takeWord_57 rfl (Nat.le_of_ble_eq_true rfl) (by omega) (loc1 := [(2, 23), (2, 1009), (9, 0)]) rfl ?_
  refine sp_isWord_9 hn hP (by omega) hx hy hxy hyz (fun hc => ?_) (fun hc => ?_)
  · refine wp_if_eq (tgt := 72) dX2_takeWord_60 (by decide) (fun h => absurd h (by decide)) (fun _ => ?_)
    refine wp_aload_n dX2_takeWord_63 rfl rfl ?_
    refine wp_sipush dX2_takeWord_64 (by decide) (by decide) ?_
    refine wp_iload_n dX2_takeWord_67 rfl rfl ?_
    refine wp_iadd dX2_takeWord_68 (by omega) ?_
    refine wp_puti 23 rfl fl_RX2_67 rfl ⟨by omega, by omega⟩ dX2_takeWord_69 rfl rfl ?_
    refine wp_iinc (loc' := [(2, 23), (0, 9)]) dX2_takeWord_72 rfl (by omega) rfl ?_
    refine wp_goto (tgt := 46) dX2_takeWord_75 (by decide) ?_
    have f1 : Fr VR5 M (mu M 23 5 264) := Fr.rf.put ⟨rfl, rfl⟩
    exact tw_9 hn (hP.fr (f1.mono VR5.r)) hd (show _ from hx) (show _ from hy) hxy hyz (show _ from (if_pos hc).symm) (fun M2 a1 a2 => kk M2 (f1.tr a1) a2)
  · refine wp_if_eq (tgt := 72) dX2_takeWord_60 (by decide) (fun _ => ?_) (fun h => absurd h (by decide))
    refine wp_iinc (loc' := [(2, 23), (0, 9)]) dX2_takeWord_72 rfl (by omega) rfl ?_
    refine wp_goto (tgt := 46) dX2_takeWord_75 (by decide) ?_
    exact tw_9 hn hP hd hx hy hxy hyz (ht.trans (if_neg (by rw [hc]; decide)).symm) kk
set_option maxRecDepth 20000 in
set_option maxHeartbeats 4000000 in
theorem tw_7 {l : Launch} {g : Gw} {d n : Nat} {M : Mm} {Q : Option Wd → Mm → Prop} (hn : 60 ≤ n) {f : Nat → Int} {z : Int} (hP : TP M f z) (hd : 6 ≤ d) {x y : Nat} (hx : M 23 3 = (x : Int)) (hy : M 23 4 = (y : Int)) (hxy : x ≤ y) (hyz : (y : Int) ≤ z) (ht : M 23 5 = wdT f x y 7) (kk : ∀ M', Fr VR5 M M' → M' 23 5 = wdT f x y 12 → Q none M') : Wp l g d 0 0 n m_X2_takeWord 46 [] [(2, 23), (0, 7)] M Q := by
  obtain ⟨hR, hf, hz, hz0, hz1⟩ := id hP
  refine wp_iload_n dX2_takeWord_46 rfl rfl ?_
  refine wp_bipush dX2_takeWord_47 (by decide) (by decide) ?_
  refine wp_icmp_ge (tgt := 78) dX2_takeWord_49 (by decide) (fun h => absurd h (by decide)) (fun _ => ?_)
  refine wp_aload_n dX2_takeWord_52 rfl rfl ?_
  refine wp_iload_n dX2_takeWord_53 rfl rfl ?_
  refine wp_callS0 (d' := d - 1) cs_RX2_123 [(0, 7)] [(2, 23)] rfl rfl (Nat.le_of_ble_eq_true rfl) dX2_takeWord_54 rfl (Nat.le_of_ble_eq_true rfl) (by omega) (loc1 := [(0, 7)]) rfl ?_
  refine wp_iload_n dX2_wordOf_0 rfl rfl ?_
  refine wp_tabIn dX2_wordOf_1 7 rfl (by decide) rfl (tgt := 81) (by decide) ?_
  refine wp_ldcS 8 rfl dX2_wordOf_81 (x := 1008) rfl ?_
  refine wp_aret rfl (Or.inl ⟨_, rfl⟩) dX2_wordOf_83 ?_
  refine wp_callV0 (d' := d - 1) cv_RX2_127 23 rfl [(2, 1008)] [] rfl rfl (Or.inl ⟨_, _, rfl, by decide, rfl, by omega, by omega⟩) (by omega) (Nat.le_of_ble_eq_true rfl) dX2_takeWord_57 rfl (Nat.le_of_ble_eq_true rfl) (by omega) (loc1 := [(2, 23), (2, 1008), (9, 0)]) rfl ?_
  refine sp_isWord_8 hn hP (by omega) hx hy hxy hyz (fun hc => ?_) (fun hc => ?_)
  · refine wp_if_eq (tgt := 72) dX2_takeWord_60 (by decide) (fun h => absurd h (by decide)) (fun _ => ?_)
    refine wp_aload_n dX2_takeWord_63 rfl rfl ?_
    refine wp_sipush dX2_takeWord_64 (by decide) (by decide) ?_
    refine wp_iload_n dX2_takeWord_67 rfl rfl ?_
    refine wp_iadd dX2_takeWord_68 (by omega) ?_
    refine wp_puti 23 rfl fl_RX2_67 rfl ⟨by omega, by omega⟩ dX2_takeWord_69 rfl rfl ?_
    refine wp_iinc (loc' := [(2, 23), (0, 8)]) dX2_takeWord_72 rfl (by omega) rfl ?_
    refine wp_goto (tgt := 46) dX2_takeWord_75 (by decide) ?_
    have f1 : Fr VR5 M (mu M 23 5 263) := Fr.rf.put ⟨rfl, rfl⟩
    exact tw_8 hn (hP.fr (f1.mono VR5.r)) hd (show _ from hx) (show _ from hy) hxy hyz (show _ from (if_pos hc).symm) (fun M2 a1 a2 => kk M2 (f1.tr a1) a2)
  · refine wp_if_eq (tgt := 72) dX2_takeWord_60 (by decide) (fun _ => ?_) (fun h => absurd h (by decide))
    refine wp_iinc (loc' := [(2, 23), (0, 8)]) dX2_takeWord_72 rfl (by omega) rfl ?_
    refine wp_goto (tgt := 46) dX2_takeWord_75 (by decide) ?_
    exact tw_8 hn hP hd hx hy hxy hyz (ht.trans (if_neg (by rw [hc]; decide)).symm) kk
set_option maxRecDepth 20000 in
set_option maxHeartbeats 4000000 in
theorem tw_6 {l : Launch} {g : Gw} {d n : Nat} {M : Mm} {Q : Option Wd → Mm → Prop} (hn : 60 ≤ n) {f : Nat → Int} {z : Int} (hP : TP M f z) (hd : 6 ≤ d) {x y : Nat} (hx : M 23 3 = (x : Int)) (hy : M 23 4 = (y : Int)) (hxy : x ≤ y) (hyz : (y : Int) ≤ z) (ht : M 23 5 = wdT f x y 6) (kk : ∀ M', Fr VR5 M M' → M' 23 5 = wdT f x y 12 → Q none M') : Wp l g d 0 0 n m_X2_takeWord 46 [] [(2, 23), (0, 6)] M Q := by
  obtain ⟨hR, hf, hz, hz0, hz1⟩ := id hP
  refine wp_iload_n dX2_takeWord_46 rfl rfl ?_
  refine wp_bipush dX2_takeWord_47 (by decide) (by decide) ?_
  refine wp_icmp_ge (tgt := 78) dX2_takeWord_49 (by decide) (fun h => absurd h (by decide)) (fun _ => ?_)
  refine wp_aload_n dX2_takeWord_52 rfl rfl ?_
  refine wp_iload_n dX2_takeWord_53 rfl rfl ?_
  refine wp_callS0 (d' := d - 1) cs_RX2_123 [(0, 6)] [(2, 23)] rfl rfl (Nat.le_of_ble_eq_true rfl) dX2_takeWord_54 rfl (Nat.le_of_ble_eq_true rfl) (by omega) (loc1 := [(0, 6)]) rfl ?_
  refine wp_iload_n dX2_wordOf_0 rfl rfl ?_
  refine wp_tabIn dX2_wordOf_1 6 rfl (by decide) rfl (tgt := 78) (by decide) ?_
  refine wp_ldcS 7 rfl dX2_wordOf_78 (x := 1007) rfl ?_
  refine wp_aret rfl (Or.inl ⟨_, rfl⟩) dX2_wordOf_80 ?_
  refine wp_callV0 (d' := d - 1) cv_RX2_127 23 rfl [(2, 1007)] [] rfl rfl (Or.inl ⟨_, _, rfl, by decide, rfl, by omega, by omega⟩) (by omega) (Nat.le_of_ble_eq_true rfl) dX2_takeWord_57 rfl (Nat.le_of_ble_eq_true rfl) (by omega) (loc1 := [(2, 23), (2, 1007), (9, 0)]) rfl ?_
  refine sp_isWord_7 hn hP (by omega) hx hy hxy hyz (fun hc => ?_) (fun hc => ?_)
  · refine wp_if_eq (tgt := 72) dX2_takeWord_60 (by decide) (fun h => absurd h (by decide)) (fun _ => ?_)
    refine wp_aload_n dX2_takeWord_63 rfl rfl ?_
    refine wp_sipush dX2_takeWord_64 (by decide) (by decide) ?_
    refine wp_iload_n dX2_takeWord_67 rfl rfl ?_
    refine wp_iadd dX2_takeWord_68 (by omega) ?_
    refine wp_puti 23 rfl fl_RX2_67 rfl ⟨by omega, by omega⟩ dX2_takeWord_69 rfl rfl ?_
    refine wp_iinc (loc' := [(2, 23), (0, 7)]) dX2_takeWord_72 rfl (by omega) rfl ?_
    refine wp_goto (tgt := 46) dX2_takeWord_75 (by decide) ?_
    have f1 : Fr VR5 M (mu M 23 5 262) := Fr.rf.put ⟨rfl, rfl⟩
    exact tw_7 hn (hP.fr (f1.mono VR5.r)) hd (show _ from hx) (show _ from hy) hxy hyz (show _ from (if_pos hc).symm) (fun M2 a1 a2 => kk M2 (f1.tr a1) a2)
  · refine wp_if_eq (tgt := 72) dX2_takeWord_60 (by decide) (fun _ => ?_) (fun h => absurd h (by decide))
    refine wp_iinc (loc' := [(2, 23), (0, 7)]) dX2_takeWord_72 rfl (by omega) rfl ?_
    refine wp_goto (tgt := 46) dX2_takeWord_75 (by decide) ?_
    exact tw_7 hn hP hd hx hy hxy hyz (ht.trans (if_neg (by rw [hc]; decide)).symm) kk
set_option maxRecDepth 20000 in
set_option maxHeartbeats 4000000 in
theorem tw_5 {l : Launch} {g : Gw} {d n : Nat} {M : Mm} {Q : Option Wd → Mm → Prop} (hn : 60 ≤ n) {f : Nat → Int} {z : Int} (hP : TP M f z) (hd : 6 ≤ d) {x y : Nat} (hx : M 23 3 = (x : Int)) (hy : M 23 4 = (y : Int)) (hxy : x ≤ y) (hyz : (y : Int) ≤ z) (ht : M 23 5 = wdT f x y 5) (kk : ∀ M', Fr VR5 M M' → M' 23 5 = wdT f x y 12 → Q none M') : Wp l g d 0 0 n m_X2_takeWord 46 [] [(2, 23), (0, 5)] M Q := by
  obtain ⟨hR, hf, hz, hz0, hz1⟩ := id hP
  refine wp_iload_n dX2_takeWord_46 rfl rfl ?_
  refine wp_bipush dX2_takeWord_47 (by decide) (by decide) ?_
  refine wp_icmp_ge (tgt := 78) dX2_takeWord_49 (by decide) (fun h => absurd h (by decide)) (fun _ => ?_)
  refine wp_aload_n dX2_takeWord_52 rfl rfl ?_
  refine wp_iload_n dX2_takeWord_53 rfl rfl ?_
  refine wp_callS0 (d' := d - 1) cs_RX2_123 [(0, 5)] [(2, 23)] rfl rfl (Nat.le_of_ble_eq_true rfl) dX2_takeWord_54 rfl (Nat.le_of_ble_eq_true rfl) (by omega) (loc1 := [(0, 5)]) rfl ?_
  refine wp_iload_n dX2_wordOf_0 rfl rfl ?_
  refine wp_tabIn dX2_wordOf_1 5 rfl (by decide) rfl (tgt := 75) (by decide) ?_
  refine wp_ldcS 6 rfl dX2_wordOf_75 (x := 1006) rfl ?_
  refine wp_aret rfl (Or.inl ⟨_, rfl⟩) dX2_wordOf_77 ?_
  refine wp_callV0 (d' := d - 1) cv_RX2_127 23 rfl [(2, 1006)] [] rfl rfl (Or.inl ⟨_, _, rfl, by decide, rfl, by omega, by omega⟩) (by omega) (Nat.le_of_ble_eq_true rfl) dX2_takeWord_57 rfl (Nat.le_of_ble_eq_true rfl) (by omega) (loc1 := [(2, 23), (2, 1006), (9, 0)]) rfl ?_
  refine sp_isWord_6 hn hP (by omega) hx hy hxy hyz (fun hc => ?_) (fun hc => ?_)
  · refine wp_if_eq (tgt := 72) dX2_takeWord_60 (by decide) (fun h => absurd h (by decide)) (fun _ => ?_)
    refine wp_aload_n dX2_takeWord_63 rfl rfl ?_
    refine wp_sipush dX2_takeWord_64 (by decide) (by decide) ?_
    refine wp_iload_n dX2_takeWord_67 rfl rfl ?_
    refine wp_iadd dX2_takeWord_68 (by omega) ?_
    refine wp_puti 23 rfl fl_RX2_67 rfl ⟨by omega, by omega⟩ dX2_takeWord_69 rfl rfl ?_
    refine wp_iinc (loc' := [(2, 23), (0, 6)]) dX2_takeWord_72 rfl (by omega) rfl ?_
    refine wp_goto (tgt := 46) dX2_takeWord_75 (by decide) ?_
    have f1 : Fr VR5 M (mu M 23 5 261) := Fr.rf.put ⟨rfl, rfl⟩
    exact tw_6 hn (hP.fr (f1.mono VR5.r)) hd (show _ from hx) (show _ from hy) hxy hyz (show _ from (if_pos hc).symm) (fun M2 a1 a2 => kk M2 (f1.tr a1) a2)
  · refine wp_if_eq (tgt := 72) dX2_takeWord_60 (by decide) (fun _ => ?_) (fun h => absurd h (by decide))
    refine wp_iinc (loc' := [(2, 23), (0, 6)]) dX2_takeWord_72 rfl (by omega) rfl ?_
    refine wp_goto (tgt := 46) dX2_takeWord_75 (by decide) ?_
    exact tw_6 hn hP hd hx hy hxy hyz (ht.trans (if_neg (by rw [hc]; decide)).symm) kk
set_option maxRecDepth 20000 in
set_option maxHeartbeats 4000000 in
theorem tw_4 {l : Launch} {g : Gw} {d n : Nat} {M : Mm} {Q : Option Wd → Mm → Prop} (hn : 60 ≤ n) {f : Nat → Int} {z : Int} (hP : TP M f z) (hd : 6 ≤ d) {x y : Nat} (hx : M 23 3 = (x : Int)) (hy : M 23 4 = (y : Int)) (hxy : x ≤ y) (hyz : (y : Int) ≤ z) (ht : M 23 5 = wdT f x y 4) (kk : ∀ M', Fr VR5 M M' → M' 23 5 = wdT f x y 12 → Q none M') : Wp l g d 0 0 n m_X2_takeWord 46 [] [(2, 23), (0, 4)] M Q := by
  obtain ⟨hR, hf, hz, hz0, hz1⟩ := id hP
  refine wp_iload_n dX2_takeWord_46 rfl rfl ?_
  refine wp_bipush dX2_takeWord_47 (by decide) (by decide) ?_
  refine wp_icmp_ge (tgt := 78) dX2_takeWord_49 (by decide) (fun h => absurd h (by decide)) (fun _ => ?_)
  refine wp_aload_n dX2_takeWord_52 rfl rfl ?_
  refine wp_iload_n dX2_takeWord_53 rfl rfl ?_
  refine wp_callS0 (d' := d - 1) cs_RX2_123 [(0, 4)] [(2, 23)] rfl rfl (Nat.le_of_ble_eq_true rfl) dX2_takeWord_54 rfl (Nat.le_of_ble_eq_true rfl) (by omega) (loc1 := [(0, 4)]) rfl ?_
  refine wp_iload_n dX2_wordOf_0 rfl rfl ?_
  refine wp_tabIn dX2_wordOf_1 4 rfl (by decide) rfl (tgt := 72) (by decide) ?_
  refine wp_ldcS 5 rfl dX2_wordOf_72 (x := 1005) rfl ?_
  refine wp_aret rfl (Or.inl ⟨_, rfl⟩) dX2_wordOf_74 ?_
  refine wp_callV0 (d' := d - 1) cv_RX2_127 23 rfl [(2, 1005)] [] rfl rfl (Or.inl ⟨_, _, rfl, by decide, rfl, by omega, by omega⟩) (by omega) (Nat.le_of_ble_eq_true rfl) dX2_takeWord_57 rfl (Nat.le_of_ble_eq_true rfl) (by omega) (loc1 := [(2, 23), (2, 1005), (9, 0)]) rfl ?_
  refine sp_isWord_5 hn hP (by omega) hx hy hxy hyz (fun hc => ?_) (fun hc => ?_)
  · refine wp_if_eq (tgt := 72) dX2_takeWord_60 (by decide) (fun h => absurd h (by decide)) (fun _ => ?_)
    refine wp_aload_n dX2_takeWord_63 rfl rfl ?_
    refine wp_sipush dX2_takeWord_64 (by decide) (by decide) ?_
    refine wp_iload_n dX2_takeWord_67 rfl rfl ?_
    refine wp_iadd dX2_takeWord_68 (by omega) ?_
    refine wp_puti 23 rfl fl_RX2_67 rfl ⟨by omega, by omega⟩ dX2_takeWord_69 rfl rfl ?_
    refine wp_iinc (loc' := [(2, 23), (0, 5)]) dX2_takeWord_72 rfl (by omega) rfl ?_
    refine wp_goto (tgt := 46) dX2_takeWord_75 (by decide) ?_
    have f1 : Fr VR5 M (mu M 23 5 260) := Fr.rf.put ⟨rfl, rfl⟩
    exact tw_5 hn (hP.fr (f1.mono VR5.r)) hd (show _ from hx) (show _ from hy) hxy hyz (show _ from (if_pos hc).symm) (fun M2 a1 a2 => kk M2 (f1.tr a1) a2)
  · refine wp_if_eq (tgt := 72) dX2_takeWord_60 (by decide) (fun _ => ?_) (fun h => absurd h (by decide))
    refine wp_iinc (loc' := [(2, 23), (0, 5)]) dX2_takeWord_72 rfl (by omega) rfl ?_
    refine wp_goto (tgt := 46) dX2_takeWord_75 (by decide) ?_
    exact tw_5 hn hP hd hx hy hxy hyz (ht.trans (if_neg (by rw [hc]; decide)).symm) kk
set_option maxRecDepth 20000 in
set_option maxHeartbeats 4000000 in
theorem tw_3 {l : Launch} {g : Gw} {d n : Nat} {M : Mm} {Q : Option Wd → Mm → Prop} (hn : 60 ≤ n) {f : Nat → Int} {z : Int} (hP : TP M f z) (hd : 6 ≤ d) {x y : Nat} (hx : M 23 3 = (x : Int)) (hy : M 23 4 = (y : Int)) (hxy : x ≤ y) (hyz : (y : Int) ≤ z) (ht : M 23 5 = wdT f x y 3) (kk : ∀ M', Fr VR5 M M' → M' 23 5 = wdT f x y 12 → Q none M') : Wp l g d 0 0 n m_X2_takeWord 46 [] [(2, 23), (0, 3)] M Q := by
  obtain ⟨hR, hf, hz, hz0, hz1⟩ := id hP
  refine wp_iload_n dX2_takeWord_46 rfl rfl ?_
  refine wp_bipush dX2_takeWord_47 (by decide) (by decide) ?_
  refine wp_icmp_ge (tgt := 78) dX2_takeWord_49 (by decide) (fun h => absurd h (by decide)) (fun _ => ?_)
  refine wp_aload_n dX2_takeWord_52 rfl rfl ?_
  refine wp_iload_n dX2_takeWord_53 rfl rfl ?_
  refine wp_callS0 (d' := d - 1) cs_RX2_123 [(0, 3)] [(2, 23)] rfl rfl (Nat.le_of_ble_eq_true rfl) dX2_takeWord_54 rfl (Nat.le_of_ble_eq_true rfl) (by omega) (loc1 := [(0, 3)]) rfl ?_
  refine wp_iload_n dX2_wordOf_0 rfl rfl ?_
  refine wp_tabIn dX2_wordOf_1 3 rfl (by decide) rfl (tgt := 69) (by decide) ?_
  refine wp_ldcS 4 rfl dX2_wordOf_69 (x := 1004) rfl ?_
  refine wp_aret rfl (Or.inl ⟨_, rfl⟩) dX2_wordOf_71 ?_
  refine wp_callV0 (d' := d - 1) cv_RX2_127 23 rfl [(2, 1004)] [] rfl rfl (Or.inl ⟨_, _, rfl, by decide, rfl, by omega, by omega⟩) (by omega) (Nat.le_of_ble_eq_true rfl) dX2_takeWord_57 rfl (Nat.le_of_ble_eq_true rfl) (by omega) (loc1 := [(2, 23), (2, 1004), (9, 0)]) rfl ?_
  refine sp_isWord_4 hn hP (by omega) hx hy hxy hyz (fun hc => ?_) (fun hc => ?_)
  · refine wp_if_eq (tgt := 72) dX2_takeWord_60 (by decide) (fun h => absurd h (by decide)) (fun _ => ?_)
    refine wp_aload_n dX2_takeWord_63 rfl rfl ?_
    refine wp_sipush dX2_takeWord_64 (by decide) (by decide) ?_
    refine wp_iload_n dX2_takeWord_67 rfl rfl ?_
    refine wp_iadd dX2_takeWord_68 (by omega) ?_
    refine wp_puti 23 rfl fl_RX2_67 rfl ⟨by omega, by omega⟩ dX2_takeWord_69 rfl rfl ?_
    refine wp_iinc (loc' := [(2, 23), (0, 4)]) dX2_takeWord_72 rfl (by omega) rfl ?_
    refine wp_goto (tgt := 46) dX2_takeWord_75 (by decide) ?_
    have f1 : Fr VR5 M (mu M 23 5 259) := Fr.rf.put ⟨rfl, rfl⟩
    exact tw_4 hn (hP.fr (f1.mono VR5.r)) hd (show _ from hx) (show _ from hy) hxy hyz (show _ from (if_pos hc).symm) (fun M2 a1 a2 => kk M2 (f1.tr a1) a2)
  · refine wp_if_eq (tgt := 72) dX2_takeWord_60 (by decide) (fun _ => ?_) (fun h => absurd h (by decide))
    refine wp_iinc (loc' := [(2, 23), (0, 4)]) dX2_takeWord_72 rfl (by omega) rfl ?_
    refine wp_goto (tgt := 46) dX2_takeWord_75 (by decide) ?_
    exact tw_4 hn hP hd hx hy hxy hyz (ht.trans (if_neg (by rw [hc]; decide)).symm) kk
set_option maxRecDepth 20000 in
set_option maxHeartbeats 4000000 in
theorem tw_2 {l : Launch} {g : Gw} {d n : Nat} {M : Mm} {Q : Option Wd → Mm → Prop} (hn : 60 ≤ n) {f : Nat → Int} {z : Int} (hP : TP M f z) (hd : 6 ≤ d) {x y : Nat} (hx : M 23 3 = (x : Int)) (hy : M 23 4 = (y : Int)) (hxy : x ≤ y) (hyz : (y : Int) ≤ z) (ht : M 23 5 = wdT f x y 2) (kk : ∀ M', Fr VR5 M M' → M' 23 5 = wdT f x y 12 → Q none M') : Wp l g d 0 0 n m_X2_takeWord 46 [] [(2, 23), (0, 2)] M Q := by
  obtain ⟨hR, hf, hz, hz0, hz1⟩ := id hP
  refine wp_iload_n dX2_takeWord_46 rfl rfl ?_
  refine wp_bipush dX2_takeWord_47 (by decide) (by decide) ?_
  refine wp_icmp_ge (tgt := 78) dX2_takeWord_49 (by decide) (fun h => absurd h (by decide)) (fun _ => ?_)
  refine wp_aload_n dX2_takeWord_52 rfl rfl ?_
  refine wp_iload_n dX2_takeWord_53 rfl rfl ?_
  refine wp_callS0 (d' := d - 1) cs_RX2_123 [(0, 2)] [(2, 23)] rfl rfl (Nat.le_of_ble_eq_true rfl) dX2_takeWord_54 rfl (Nat.le_of_ble_eq_true rfl) (by omega) (loc1 := [(0, 2)]) rfl ?_
  refine wp_iload_n dX2_wordOf_0 rfl rfl ?_
  refine wp_tabIn dX2_wordOf_1 2 rfl (by decide) rfl (tgt := 66) (by decide) ?_
  refine wp_ldcS 3 rfl dX2_wordOf_66 (x := 1003) rfl ?_
  refine wp_aret rfl (Or.inl ⟨_, rfl⟩) dX2_wordOf_68 ?_
  refine wp_callV0 (d' := d - 1) cv_RX2_127 23 rfl [(2, 1003)] [] rfl rfl (Or.inl ⟨_, _, rfl, by decide, rfl, by omega, by omega⟩) (by omega) (Nat.le_of_ble_eq_true rfl) dX2_takeWord_57 rfl (Nat.le_of_ble_eq_true rfl) (by omega) (loc1 := [(2, 23), (2, 1003), (9, 0)]) rfl ?_
  refine sp_isWord_3 hn hP (by omega) hx hy hxy hyz (fun hc => ?_) (fun hc => ?_)
  · refine wp_if_eq (tgt := 72) dX2_takeWord_60 (by decide) (fun h => absurd h (by decide)) (fun _ => ?_)
    refine wp_aload_n dX2_takeWord_63 rfl rfl ?_
    refine wp_sipush dX2_takeWord_64 (by decide) (by decide) ?_
    refine wp_iload_n dX2_takeWord_67 rfl rfl ?_
    refine wp_iadd dX2_takeWord_68 (by omega) ?_
    refine wp_puti 23 rfl fl_RX2_67 rfl ⟨by omega, by omega⟩ dX2_takeWord_69 rfl rfl ?_
    refine wp_iinc (loc' := [(2, 23), (0, 3)]) dX2_takeWord_72 rfl (by omega) rfl ?_
    refine wp_goto (tgt := 46) dX2_takeWord_75 (by decide) ?_
    have f1 : Fr VR5 M (mu M 23 5 258) := Fr.rf.put ⟨rfl, rfl⟩
    exact tw_3 hn (hP.fr (f1.mono VR5.r)) hd (show _ from hx) (show _ from hy) hxy hyz (show _ from (if_pos hc).symm) (fun M2 a1 a2 => kk M2 (f1.tr a1) a2)
  · refine wp_if_eq (tgt := 72) dX2_takeWord_60 (by decide) (fun _ => ?_) (fun h => absurd h (by decide))
    refine wp_iinc (loc' := [(2, 23), (0, 3)]) dX2_takeWord_72 rfl (by omega) rfl ?_
    refine wp_goto (tgt := 46) dX2_takeWord_75 (by decide) ?_
    exact tw_3 hn hP hd hx hy hxy hyz (ht.trans (if_neg (by rw [hc]; decide)).symm) kk
set_option maxRecDepth 20000 in
set_option maxHeartbeats 4000000 in
theorem tw_1 {l : Launch} {g : Gw} {d n : Nat} {M : Mm} {Q : Option Wd → Mm → Prop} (hn : 60 ≤ n) {f : Nat → Int} {z : Int} (hP : TP M f z) (hd : 6 ≤ d) {x y : Nat} (hx : M 23 3 = (x : Int)) (hy : M 23 4 = (y : Int)) (hxy : x ≤ y) (hyz : (y : Int) ≤ z) (ht : M 23 5 = wdT f x y 1) (kk : ∀ M', Fr VR5 M M' → M' 23 5 = wdT f x y 12 → Q none M') : Wp l g d 0 0 n m_X2_takeWord 46 [] [(2, 23), (0, 1)] M Q := by
  obtain ⟨hR, hf, hz, hz0, hz1⟩ := id hP
  refine wp_iload_n dX2_takeWord_46 rfl rfl ?_
  refine wp_bipush dX2_takeWord_47 (by decide) (by decide) ?_
  refine wp_icmp_ge (tgt := 78) dX2_takeWord_49 (by decide) (fun h => absurd h (by decide)) (fun _ => ?_)
  refine wp_aload_n dX2_takeWord_52 rfl rfl ?_
  refine wp_iload_n dX2_takeWord_53 rfl rfl ?_
  refine wp_callS0 (d' := d - 1) cs_RX2_123 [(0, 1)] [(2, 23)] rfl rfl (Nat.le_of_ble_eq_true rfl) dX2_takeWord_54 rfl (Nat.le_of_ble_eq_true rfl) (by omega) (loc1 := [(0, 1)]) rfl ?_
  refine wp_iload_n dX2_wordOf_0 rfl rfl ?_
  refine wp_tabIn dX2_wordOf_1 1 rfl (by decide) rfl (tgt := 63) (by decide) ?_
  refine wp_ldcS 2 rfl dX2_wordOf_63 (x := 1002) rfl ?_
  refine wp_aret rfl (Or.inl ⟨_, rfl⟩) dX2_wordOf_65 ?_
  refine wp_callV0 (d' := d - 1) cv_RX2_127 23 rfl [(2, 1002)] [] rfl rfl (Or.inl ⟨_, _, rfl, by decide, rfl, by omega, by omega⟩) (by omega) (Nat.le_of_ble_eq_true rfl) dX2_takeWord_57 rfl (Nat.le_of_ble_eq_true rfl) (by omega) (loc1 := [(2, 23), (2, 1002), (9, 0)]) rfl ?_
  refine sp_isWord_2 hn hP (by omega) hx hy hxy hyz (fun hc => ?_) (fun hc => ?_)
  · refine wp_if_eq (tgt := 72) dX2_takeWord_60 (by decide) (fun h => absurd h (by decide)) (fun _ => ?_)
    refine wp_aload_n dX2_takeWord_63 rfl rfl ?_
    refine wp_sipush dX2_takeWord_64 (by decide) (by decide) ?_
    refine wp_iload_n dX2_takeWord_67 rfl rfl ?_
    refine wp_iadd dX2_takeWord_68 (by omega) ?_
    refine wp_puti 23 rfl fl_RX2_67 rfl ⟨by omega, by omega⟩ dX2_takeWord_69 rfl rfl ?_
    refine wp_iinc (loc' := [(2, 23), (0, 2)]) dX2_takeWord_72 rfl (by omega) rfl ?_
    refine wp_goto (tgt := 46) dX2_takeWord_75 (by decide) ?_
    have f1 : Fr VR5 M (mu M 23 5 257) := Fr.rf.put ⟨rfl, rfl⟩
    exact tw_2 hn (hP.fr (f1.mono VR5.r)) hd (show _ from hx) (show _ from hy) hxy hyz (show _ from (if_pos hc).symm) (fun M2 a1 a2 => kk M2 (f1.tr a1) a2)
  · refine wp_if_eq (tgt := 72) dX2_takeWord_60 (by decide) (fun _ => ?_) (fun h => absurd h (by decide))
    refine wp_iinc (loc' := [(2, 23), (0, 2)]) dX2_takeWord_72 rfl (by omega) rfl ?_
    refine wp_goto (tgt := 46) dX2_takeWord_75 (by decide) ?_
    exact tw_2 hn hP hd hx hy hxy hyz (ht.trans (if_neg (by rw [hc]; decide)).symm) kk
set_option maxRecDepth 20000 in
set_option maxHeartbeats 4000000 in
theorem tw_0 {l : Launch} {g : Gw} {d n : Nat} {M : Mm} {Q : Option Wd → Mm → Prop} (hn : 60 ≤ n) {f : Nat → Int} {z : Int} (hP : TP M f z) (hd : 6 ≤ d) {x y : Nat} (hx : M 23 3 = (x : Int)) (hy : M 23 4 = (y : Int)) (hxy : x ≤ y) (hyz : (y : Int) ≤ z) (ht : M 23 5 = wdT f x y 0) (kk : ∀ M', Fr VR5 M M' → M' 23 5 = wdT f x y 12 → Q none M') : Wp l g d 0 0 n m_X2_takeWord 46 [] [(2, 23), (0, 0)] M Q := by
  obtain ⟨hR, hf, hz, hz0, hz1⟩ := id hP
  refine wp_iload_n dX2_takeWord_46 rfl rfl ?_
  refine wp_bipush dX2_takeWord_47 (by decide) (by decide) ?_
  refine wp_icmp_ge (tgt := 78) dX2_takeWord_49 (by decide) (fun h => absurd h (by decide)) (fun _ => ?_)
  refine wp_aload_n dX2_takeWord_52 rfl rfl ?_
  refine wp_iload_n dX2_takeWord_53 rfl rfl ?_
  refine wp_callS0 (d' := d - 1) cs_RX2_123 [(0, 0)] [(2, 23)] rfl rfl (Nat.le_of_ble_eq_true rfl) dX2_takeWord_54 rfl (Nat.le_of_ble_eq_true rfl) (by omega) (loc1 := [(0, 0)]) rfl ?_
  refine wp_iload_n dX2_wordOf_0 rfl rfl ?_
  refine wp_tabIn dX2_wordOf_1 0 rfl (by decide) rfl (tgt := 60) (by decide) ?_
  refine wp_ldcS 1 rfl dX2_wordOf_60 (x := 1001) rfl ?_
  refine wp_aret rfl (Or.inl ⟨_, rfl⟩) dX2_wordOf_62 ?_
  refine wp_callV0 (d' := d - 1) cv_RX2_127 23 rfl [(2, 1001)] [] rfl rfl (Or.inl ⟨_, _, rfl, by decide, rfl, by omega, by omega⟩) (by omega) (Nat.le_of_ble_eq_true rfl) dX2_takeWord_57 rfl (Nat.le_of_ble_eq_true rfl) (by omega) (loc1 := [(2, 23), (2, 1001), (9, 0)]) rfl ?_
  refine sp_isWord_1 hn hP (by omega) hx hy hxy hyz (fun hc => ?_) (fun hc => ?_)
  · refine wp_if_eq (tgt := 72) dX2_takeWord_60 (by decide) (fun h => absurd h (by decide)) (fun _ => ?_)
    refine wp_aload_n dX2_takeWord_63 rfl rfl ?_
    refine wp_sipush dX2_takeWord_64 (by decide) (by decide) ?_
    refine wp_iload_n dX2_takeWord_67 rfl rfl ?_
    refine wp_iadd dX2_takeWord_68 (by omega) ?_
    refine wp_puti 23 rfl fl_RX2_67 rfl ⟨by omega, by omega⟩ dX2_takeWord_69 rfl rfl ?_
    refine wp_iinc (loc' := [(2, 23), (0, 1)]) dX2_takeWord_72 rfl (by omega) rfl ?_
    refine wp_goto (tgt := 46) dX2_takeWord_75 (by decide) ?_
    have f1 : Fr VR5 M (mu M 23 5 256) := Fr.rf.put ⟨rfl, rfl⟩
    exact tw_1 hn (hP.fr (f1.mono VR5.r)) hd (show _ from hx) (show _ from hy) hxy hyz (show _ from (if_pos hc).symm) (fun M2 a1 a2 => kk M2 (f1.tr a1) a2)
  · refine wp_if_eq (tgt := 72) dX2_takeWord_60 (by decide) (fun _ => ?_) (fun h => absurd h (by decide))
    refine wp_iinc (loc' := [(2, 23), (0, 1)]) dX2_takeWord_72 rfl (by omega) rfl ?_
    refine wp_goto (tgt := 46) dX2_takeWord_75 (by decide) ?_
    exact tw_1 hn hP hd hx hy hxy hyz (ht.trans (if_neg (by rw [hc]; decide)).symm) kk
set_option maxRecDepth 20000 in
set_option maxHeartbeats 4000000 in
theorem lp_ltr  {l : Launch} {g : Gw} {d n : Nat} (hn : 60 ≤ n) (hd : 2 ≤ d) {f : Nat → Int} {z : Int} : ∀ (m i x : Nat) (M : Mm) (Q : Option Wd → Mm → Prop), i + m = 160 → (x : Int) ≤ z → TP M f z → M 23 4 = (x : Int) → (∀ M' u, Fr VR4 M M' → M' 23 4 = (skp ltr f z m x : Int) → Wp l g d 0 0 n m_X2_takeWord 39 [] [(2, 23), u] M' Q) → Wp l g d 0 0 n m_X2_takeWord 2 [] [(2, 23), (0, (i : Int))] M Q := by
  intro m
  induction m with
  | zero =>
    intro i x M Q hi hxz hP hx k
    obtain ⟨hR, hf, hz, hz0, hz1⟩ := id hP
    refine wp_iload_n dX2_takeWord_2 rfl rfl ?_
    refine wp_sipush dX2_takeWord_3 (by decide) (by decide) ?_
    refine wp_icmp_ge (tgt := 39) dX2_takeWord_6 (by decide) (fun _ => ?_) (fun h => absurd h (by omega))
    exact k M _ Fr.rf hx
  | succ m ih =>
    intro i x M Q hi hxz hP hx k
    obtain ⟨hR, hf, hz, hz0, hz1⟩ := id hP
    refine wp_iload_n dX2_takeWord_2 rfl rfl ?_
    refine wp_sipush dX2_takeWord_3 (by decide) (by decide) ?_
    refine wp_icmp_ge (tgt := 39) dX2_takeWord_6 (by decide) (fun h => absurd h (by omega)) (fun _ => ?_)
    refine wp_aload_n dX2_takeWord_9 rfl rfl ?_
    refine wp_aload_n dX2_takeWord_10 rfl rfl ?_
    refine wp_get 23 rfl fl_RX2_42 rfl ⟨by omega, by omega⟩ dX2_takeWord_11 rfl (v := (x : Int)) (hx) ?_
    refine wp_callV0 (d' := d - 1) cv_RX2_101 23 rfl [(0, (x : Int))] [] rfl rfl (Or.inl ⟨_, _, rfl, by decide, rfl, by omega, by omega⟩) (by omega) (Nat.le_of_ble_eq_true rfl) dX2_takeWord_14 rfl (Nat.le_of_ble_eq_true rfl) (by omega) (loc1 := [(2, 23), (0, (x : Int))]) rfl ?_
    refine sp_letterAt hn hP (x : Int) ?_
    refine wp_callS0 (d' := d - 1) cs_RX2_108 [(0, (ltA f z (x : Int)))] [] rfl rfl (Nat.le_of_ble_eq_true rfl) dX2_takeWord_17 rfl (Nat.le_of_ble_eq_true rfl) (by omega) (loc1 := [(0, (ltA f z (x : Int)))]) rfl ?_
    refine sp_isLetter (ltA f z (x : Int)) (fun hc => ?_) (fun hc => ?_)
    · refine wp_if_eq (tgt := 39) dX2_takeWord_20 (by decide) (fun h => absurd h (by decide)) (fun _ => ?_)
      refine wp_aload_n dX2_takeWord_23 rfl rfl ?_
      refine wp_dup dX2_takeWord_24 (Or.inr rfl) ?_
      refine wp_get 23 rfl fl_RX2_42 rfl ⟨by omega, by omega⟩ dX2_takeWord_25 rfl (v := (x : Int)) (hx) ?_
      refine wp_iconst dX2_takeWord_28 (by decide) ?_
      refine wp_iadd dX2_takeWord_29 (by omega) ?_
      refine wp_puti 23 rfl fl_RX2_42 rfl ⟨by omega, by omega⟩ dX2_takeWord_30 rfl rfl ?_
      refine wp_iinc (loc' := [(2, 23), (0, ((i : Int) + 1))]) dX2_takeWord_33 rfl (by omega) rfl ?_
      refine wp_goto (tgt := 2) dX2_takeWord_36 (by decide) ?_
      have f1 : Fr VR4 M (mu M 23 4 ((x : Int) + 1)) := Fr.rf.put ⟨rfl, rfl⟩
      have e : skp ltr f z (m + 1) x = skp ltr f z m (x + 1) := if_pos hc
      rw [e] at k
      exact ih (i + 1) (x + 1) _ Q (by omega) (by have hlt := ltA_lt (P := ltr) (by decide) hc; omega) (hP.fr (f1.mono VR4.r)) rfl (fun M2 u b1 b2 => k M2 u (f1.tr b1) b2)
    · refine wp_if_eq (tgt := 39) dX2_takeWord_20 (by decide) (fun _ => ?_) (fun h => absurd h (by decide))
      have e : skp ltr f z (m + 1) x = x := if_neg (by rw [hc]; decide)
      rw [e] at k
      exact k M _ Fr.rf hx
def VR45 (i j : Nat) : Prop := i = 23 ∧ (j = 4 ∨ j = 5 ∨ j = 6)
theorem VR45.r : ∀ i j, VR45 i j → VR i j := by
  intro i j h
  unfold VR45 at h
  unfold VR
  omega
theorem VR4.q : ∀ i j, VR4 i j → VR45 i j := by
  intro i j h
  unfold VR4 at h
  unfold VR45
  omega
theorem VR5.q : ∀ i j, VR5 i j → VR45 i j := by
  intro i j h
  unfold VR5 at h
  unfold VR45
  omega
theorem VR46.q : ∀ i j, VR46 i j → VR45 i j := by
  intro i j h
  unfold VR46 at h
  unfold VR45
  omega
set_option maxRecDepth 20000 in
set_option maxHeartbeats 4000000 in
theorem sp_takeWord {l : Launch} {g : Gw} {d n : Nat} {M : Mm} {Q : Option Wd → Mm → Prop} (hn : 60 ≤ n) {f : Nat → Int} {z : Int} (hP : TP M f z) (hd : 7 ≤ d) {x : Nat} (hx : M 23 3 = (x : Int)) (hx4 : M 23 4 = (x : Int)) (hxz : (x : Int) ≤ z) (kk : ∀ M', Fr VR45 M M' → M' 23 4 = (skp ltr f z 160 x : Int) → M' 23 5 = wdT f x (skp ltr f z 160 x) 12 → Q none M') : Wp l g d 0 0 n m_X2_takeWord 0 [] [(2, 23), (9, 0)] M Q := by
  have hd : 6 ≤ d := by omega
  obtain ⟨hR, hf, hz, hz0, hz1⟩ := id hP
  refine wp_iconst dX2_takeWord_0 (by decide) ?_
  refine wp_istore_n (loc' := [(2, 23), (0, 0)]) dX2_takeWord_1 rfl (Nat.le_of_ble_eq_true rfl) rfl ?_
  refine lp_ltr hn (by omega) 160 0 x M Q (by omega) hxz hP hx4 (fun M1 u f1 hy1 => ?_)
  have hR1 := VR.sr (f1.mono VR4.r) hP.1
  have hx1 : M1 23 3 = (x : Int) := (f1 23 3 (by unfold VR4; omega)).trans hx
  have hs := skp_le (P := ltr) (by decide) (f := f) 160 x hxz
  refine wp_aload_n dX2_takeWord_39 rfl rfl ?_
  refine wp_iconst dX2_takeWord_40 (by decide) ?_
  refine wp_puti 23 rfl fl_RX2_67 rfl ⟨by omega, by omega⟩ dX2_takeWord_41 rfl rfl ?_
  refine wp_iconst dX2_takeWord_44 (by decide) ?_
  refine wp_istore_n (loc' := [(2, 23), (0, 0)]) dX2_takeWord_45 rfl (Nat.le_of_ble_eq_true rfl) rfl ?_
  have f2 : Fr VR5 M1 (mu M1 23 5 1) := Fr.rf.put ⟨rfl, rfl⟩
  exact tw_0 hn ((hP.fr (f1.mono VR4.r)).fr (f2.mono VR5.r)) hd (show _ from hx1) (show _ from hy1) hs.2 hs.1 rfl (fun M2 a1 a2 => kk M2 ((f1.mono VR4.q).tr ((f2.tr a1).mono VR5.q)) ((a1 23 4 (by unfold VR5; omega)).trans hy1) a2)
set_option maxRecDepth 20000 in
set_option maxHeartbeats 4000000 in
theorem sp_takeNumeral {l : Launch} {g : Gw} {d n : Nat} {M : Mm} {Q : Option Wd → Mm → Prop} (hn : 60 ≤ n) {f : Nat → Int} {z : Int} (hP : TP M f z) (hd : 4 ≤ d) {x : Nat} (hx : M 23 3 = (x : Int)) (hx4 : M 23 4 = (x : Int)) (hxz : (x : Int) ≤ z) (kk : ∀ M', Fr VR45 M M' → M' 23 4 = ((nmr f z 160 x 0).1 : Int) → M' 23 6 = (nmr f z 160 x 0).2 → M' 23 5 = (if 4 < (nmr f z 160 x 0).1 - x then 1 else 2) → Q none M') : Wp l g d 0 0 n m_X2_takeNumeral 0 [] [(2, 23), (9, 0)] M Q := by
  obtain ⟨hR, hf, hz, hz0, hz1⟩ := id hP
  refine wp_aload_n dX2_takeNumeral_0 rfl rfl ?_
  refine wp_iconst dX2_takeNumeral_1 (by decide) ?_
  refine wp_puti 23 rfl fl_RX2_98 rfl ⟨by omega, by omega⟩ dX2_takeNumeral_2 rfl rfl ?_
  refine wp_iconst dX2_takeNumeral_5 (by decide) ?_
  refine wp_istore_n (loc' := [(2, 23), (0, 0)]) dX2_takeNumeral_6 rfl (Nat.le_of_ble_eq_true rfl) rfl ?_
  have f0 : Fr VR46 M (mu M 23 6 0) := Fr.rf.put ⟨rfl, Or.inr rfl⟩
  refine lp_num hn (by omega) 160 0 x 0 _ Q (by omega) hxz (hP.fr (f0.mono VR46.r)) (show _ from hx4) rfl (fun M1 u f1 hy1 hv1 => ?_)
  replace f1 := f0.tr f1
  have hR1 := VR.sr (f1.mono VR46.r) hP.1
  have hx1 : M1 23 3 = (x : Int) := (f1 23 3 (by unfold VR46; omega)).trans hx
  have hs := nmr_le (f := f) 160 x 0 hxz
  refine wp_aload_n dX2_takeNumeral_67 rfl rfl ?_
  refine wp_aload_n dX2_takeNumeral_68 rfl rfl ?_
  refine wp_get 23 rfl fl_RX2_42 rfl ⟨by omega, by omega⟩ dX2_takeNumeral_69 rfl (v := ((nmr f z 160 x 0).1 : Int)) (hy1) ?_
  refine wp_aload_n dX2_takeNumeral_72 rfl rfl ?_
  refine wp_get 23 rfl fl_RX2_64 rfl ⟨by omega, by omega⟩ dX2_takeNumeral_73 rfl (v := (x : Int)) (hx1) ?_
  refine wp_isub dX2_takeNumeral_76 (by omega) ?_
  refine wp_iconst dX2_takeNumeral_77 (by decide) ?_
  refine wp_icmp_le (tgt := 85) dX2_takeNumeral_78 (by decide) (fun h78 => ?_) (fun h78 => ?_)
  · refine wp_iconst dX2_takeNumeral_85 (by decide) ?_
    refine wp_puti 23 rfl fl_RX2_67 rfl ⟨by omega, by omega⟩ dX2_takeNumeral_86 rfl rfl ?_
    refine wp_vret rfl dX2_takeNumeral_89 ?_
    have f2 : Fr VR5 M1 (mu M1 23 5 2) := Fr.rf.put ⟨rfl, rfl⟩
    exact kk _ ((f1.mono VR46.q).tr (f2.mono VR5.q)) (show _ from hy1) (show _ from hv1) (show _ from (if_neg (by omega)).symm)
  · refine wp_iconst dX2_takeNumeral_81 (by decide) ?_
    refine wp_goto (tgt := 86) dX2_takeNumeral_82 (by decide) ?_
    refine wp_puti 23 rfl fl_RX2_67 rfl ⟨by omega, by omega⟩ dX2_takeNumeral_86 rfl rfl ?_
    refine wp_vret rfl dX2_takeNumeral_89 ?_
    have f2 : Fr VR5 M1 (mu M1 23 5 1) := Fr.rf.put ⟨rfl, rfl⟩
    exact kk _ ((f1.mono VR46.q).tr (f2.mono VR5.q)) (show _ from hy1) (show _ from hv1) (show _ from (if_pos (by omega)).symm)
/-- where the token starts that is sought from x; the token; where it ends; a numeral's number -/
def lxA (f : Nat → Int) (z : Int) (x : Nat) : Nat := skp blk f z 160 x
def lxT (f : Nat → Int) (z : Int) (x : Nat) : Int :=
  if ltA f z (lxA f z x) = -1 then 0
  else if ltr (ltA f z (lxA f z x)) = true then wdT f (lxA f z x) (skp ltr f z 160 (lxA f z x)) 12
  else if dgt (ltA f z (lxA f z x)) = true then (if 4 < (nmr f z 160 (lxA f z x) 0).1 - lxA f z x then 1 else 2)
  else if sgnC (ltA f z (lxA f z x)) = true then ltA f z (lxA f z x) else 1
def lxN (f : Nat → Int) (z : Int) (x : Nat) : Nat :=
  if ltA f z (lxA f z x) = -1 then lxA f z x
  else if ltr (ltA f z (lxA f z x)) = true then skp ltr f z 160 (lxA f z x)
  else if dgt (ltA f z (lxA f z x)) = true then (nmr f z 160 (lxA f z x) 0).1
  else lxA f z x + 1
def lxV (f : Nat → Int) (z : Int) (x : Nat) : Int := (nmr f z 160 (lxA f z x) 0).2
/-- bytes alone lie on the tape -/
def BT (f : Nat → Int) (z : Int) : Prop := ∀ i : Nat, (i : Int) < z → 0 ≤ f i ∧ f i ≤ 255
theorem ltA_r {f : Nat → Int} {z : Int} (h : BT f z) (x : Int) : -1 ≤ ltA f z x ∧ ltA f z x ≤ 255 ∧ (ltA f z x = -1 → ¬ (0 ≤ x ∧ x < z)) := by
  unfold ltA
  split
  · have := h x.toNat (by omega)
    omega
  · omega
/-- the token that was sought from x is at hand -/
def LXJ (M : Mm) (f : Nat → Int) (z : Int) (x : Nat) : Prop := M 23 3 = (lxA f z x : Int) ∧ M 23 4 = (lxN f z x : Int) ∧ M 23 5 = lxT f z x ∧ (lxT f z x = 2 → M 23 6 = lxV f z x)
def VR36 (i j : Nat) : Prop := i = 23 ∧ (j = 3 ∨ j = 4 ∨ j = 5 ∨ j = 6)
theorem VR36.r : ∀ i j, VR36 i j → VR i j := by
  intro i j h
  unfold VR36 at h
  unfold VR
  omega
theorem VR4.w : ∀ i j, VR4 i j → VR36 i j := by
  intro i j h
  unfold VR4 at h
  unfold VR36
  omega
theorem VR45.w : ∀ i j, VR45 i j → VR36 i j := by
  intro i j h
  unfold VR45 at h
  unfold VR36
  omega
theorem sgnC2 (c : Int) : ¬ (sgnC c = true ∧ c = 2) := by
  intro h
  have := of_decide_eq_true h.1
  omega
theorem wdT2 (f : Nat → Int) (x y : Nat) : ∀ k, wdT f x y k = 1 ∨ 256 ≤ wdT f x y k
  | 0 => Or.inl rfl
  | k + 1 => by
    unfold wdT
    split
    · right; omega
    · exact wdT2 f x y k
set_option maxRecDepth 20000 in
set_option maxHeartbeats 4000000 in
theorem sp_step {l : Launch} {g : Gw} {d n : Nat} {M : Mm} {Q : Option Wd → Mm → Prop} (hn : 60 ≤ n) {f : Nat → Int} {z : Int} (hP : TP M f z) (hd : 9 ≤ d) (hB : BT f z) {x : Nat} (hx : M 23 4 = (x : Int)) (hx0 : (x : Int) ≤ z) (kk : ∀ M', Fr VR36 M M' → LXJ M' f z x → Q none M') : Wp l g d 0 0 n m_X2_step 0 [] [(2, 23), (9, 0)] M Q := by
  obtain ⟨hR, hf, hz, hz0, hz1⟩ := id hP
  refine wp_iconst dX2_step_0 (by decide) ?_
  refine wp_istore_n (loc' := [(2, 23), (0, 0)]) dX2_step_1 rfl (Nat.le_of_ble_eq_true rfl) rfl ?_
  refine lp_blank hn (by omega) 160 0 x M Q (by omega) hx0 hP hx (fun M1 u f1 hx1 => ?_)
  have hP1 := hP.fr (f1.mono VR4.r)
  have hR1 := hP1.1
  have hxz : ((lxA f z x : Nat) : Int) ≤ z := (skp_le (P := blk) (by decide) (f := f) 160 x hx0).1
  replace hx1 : M1 23 4 = ((lxA f z x : Nat) : Int) := hx1
  refine wp_aload_n dX2_step_39 rfl rfl ?_
  refine wp_aload_n dX2_step_40 rfl rfl ?_
  refine wp_get 23 rfl fl_RX2_42 rfl ⟨by omega, by omega⟩ dX2_step_41 rfl (v := ((lxA f z x : Nat) : Int)) (hx1) ?_
  refine wp_puti 23 rfl fl_RX2_64 rfl ⟨by omega, by omega⟩ dX2_step_44 rfl rfl ?_
  refine wp_aload_n dX2_step_47 rfl rfl ?_
  refine wp_aload_n dX2_step_48 rfl rfl ?_
  refine wp_get 23 rfl fl_RX2_64 rfl ⟨by omega, by omega⟩ dX2_step_49 rfl (v := ((lxA f z x : Nat) : Int)) (rfl) ?_
  refine wp_callV0 (d' := d - 1) cv_RX2_101 23 rfl [(0, ((lxA f z x : Nat) : Int))] [] rfl rfl (Or.inl ⟨_, _, rfl, by decide, rfl, by omega, by omega⟩) (by omega) (Nat.le_of_ble_eq_true rfl) dX2_step_52 rfl (Nat.le_of_ble_eq_true rfl) (by omega) (loc1 := [(2, 23), (0, ((lxA f z x : Nat) : Int))]) rfl ?_
  have f2 : Fr VR36 M1 (mu M1 23 3 ((lxA f z x : Nat) : Int)) := Fr.rf.put ⟨rfl, Or.inl rfl⟩
  have hP2 := hP1.fr (f2.mono VR36.r)
  refine sp_letterAt hn hP2 ((lxA f z x : Nat) : Int) ?_
  generalize hM2 : (mu M1 23 3 ((lxA f z x : Nat) : Int)) = M2 at f2 hP2 ⊢
  have hx3 : M2 23 3 = (lxA f z x : Int) := by rw [← hM2]; rfl
  have hx4 : M2 23 4 = (lxA f z x : Int) := by rw [← hM2]; exact hx1
  have hR2 := hP2.1
  replace f2 := (f1.mono VR4.w).tr f2
  have hc0 := ltA_r hB ((lxA f z x : Nat) : Int)
  refine wp_istore_n (loc' := [(2, 23), (0, (ltA f z ((lxA f z x : Nat) : Int)))]) dX2_step_55 rfl (Nat.le_of_ble_eq_true rfl) rfl ?_
  refine wp_iload_n dX2_step_56 rfl rfl ?_
  refine wp_iconst dX2_step_57 (by decide) ?_
  refine wp_icmp_ne (tgt := 69) dX2_step_58 (by decide) (fun h58 => ?_) (fun h58 => ?_)
  · refine wp_iload_n dX2_step_69 rfl rfl ?_
    refine wp_callS0 (d' := d - 1) cs_RX2_108 [(0, (ltA f z ((lxA f z x : Nat) : Int)))] [] rfl rfl (Nat.le_of_ble_eq_true rfl) dX2_step_70 rfl (Nat.le_of_ble_eq_true rfl) (by omega) (loc1 := [(0, (ltA f z ((lxA f z x : Nat) : Int)))]) rfl ?_
    refine sp_isLetter (ltA f z ((lxA f z x : Nat) : Int)) (fun hL => ?_) (fun hL => ?_)
    · refine wp_if_eq (tgt := 83) dX2_step_73 (by decide) (fun h => absurd h (by decide)) (fun _ => ?_)
      refine wp_aload_n dX2_step_76 rfl rfl ?_
      refine wp_callV0 (d' := d - 1) cv_RX2_111 23 rfl [] [] rfl rfl (Or.inl ⟨_, _, rfl, by decide, rfl, by omega, by omega⟩) (by omega) (Nat.le_of_ble_eq_true rfl) dX2_step_77 rfl (Nat.le_of_ble_eq_true rfl) (by omega) (loc1 := [(2, 23), (9, 0)]) rfl ?_
      refine sp_takeWord hn hP2 (by omega) hx3 hx4 hxz (fun M3 f3 a4 a5 => ?_)
      have hR3 := VR.sr (f3.mono VR45.r) hR2
      refine wp_goto (tgt := 123) dX2_step_80 (by decide) ?_
      refine wp_vret rfl dX2_step_123 ?_
      have hx33 : M3 23 3 = (lxA f z x : Int) := (f3 23 3 (by unfold VR45; omega)).trans hx3
      refine kk M3 (f2.tr (f3.mono VR45.w)) ⟨hx33, ?_, ?_, ?_⟩
      · exact a4.trans (by unfold lxN; rw [if_neg h58, if_pos hL])
      · exact a5.trans (by unfold lxT; rw [if_neg h58, if_pos hL])
      · intro h2
        exfalso
        unfold lxT at h2
        rw [if_neg h58, if_pos hL] at h2
        have := wdT2 f (lxA f z x) (skp ltr f z 160 (lxA f z x)) 12
        omega
    · refine wp_if_eq (tgt := 83) dX2_step_73 (by decide) (fun _ => ?_) (fun h => absurd h (by decide))
      refine wp_iload_n dX2_step_83 rfl rfl ?_
      refine wp_callS0 (d' := d - 1) cs_RX2_114 [(0, (ltA f z ((lxA f z x : Nat) : Int)))] [] rfl rfl (Nat.le_of_ble_eq_true rfl) dX2_step_84 rfl (Nat.le_of_ble_eq_true rfl) (by omega) (loc1 := [(0, (ltA f z ((lxA f z x : Nat) : Int)))]) rfl ?_
      refine sp_isDigit (ltA f z ((lxA f z x : Nat) : Int)) (fun hD => ?_) (fun hD => ?_)
      · refine wp_if_eq (tgt := 97) dX2_step_87 (by decide) (fun h => absurd h (by decide)) (fun _ => ?_)
        refine wp_aload_n dX2_step_90 rfl rfl ?_
        refine wp_callV0 (d' := d - 1) cv_RX2_117 23 rfl [] [] rfl rfl (Or.inl ⟨_, _, rfl, by decide, rfl, by omega, by omega⟩) (by omega) (Nat.le_of_ble_eq_true rfl) dX2_step_91 rfl (Nat.le_of_ble_eq_true rfl) (by omega) (loc1 := [(2, 23), (9, 0)]) rfl ?_
        refine sp_takeNumeral hn hP2 (by omega) hx3 hx4 hxz (fun M3 f3 a4 a6 a5 => ?_)
        have hR3 := VR.sr (f3.mono VR45.r) hR2
        refine wp_goto (tgt := 123) dX2_step_94 (by decide) ?_
        refine wp_vret rfl dX2_step_123 ?_
        have hx33 : M3 23 3 = (lxA f z x : Int) := (f3 23 3 (by unfold VR45; omega)).trans hx3
        have hL1 : ¬ ltr (ltA f z ((lxA f z x : Nat) : Int)) = true := by rw [hL]; decide
        refine kk M3 (f2.tr (f3.mono VR45.w)) ⟨hx33, ?_, ?_, ?_⟩
        · exact a4.trans (by unfold lxN; rw [if_neg h58, if_neg hL1, if_pos hD])
        · exact a5.trans (by unfold lxT; rw [if_neg h58, if_neg hL1, if_pos hD])
        · intro h2
          exact a6
      · refine wp_if_eq (tgt := 97) dX2_step_87 (by decide) (fun _ => ?_) (fun h => absurd h (by decide))
        refine wp_aload_n dX2_step_97 rfl rfl ?_
        refine wp_dup dX2_step_98 (Or.inr rfl) ?_
        refine wp_get 23 rfl fl_RX2_42 rfl ⟨by omega, by omega⟩ dX2_step_99 rfl (v := ((lxA f z x : Nat) : Int)) (hx4) ?_
        refine wp_iconst dX2_step_102 (by decide) ?_
        refine wp_iadd dX2_step_103 (by omega) ?_
        refine wp_puti 23 rfl fl_RX2_42 rfl ⟨by omega, by omega⟩ dX2_step_104 rfl rfl ?_
        refine wp_aload_n dX2_step_107 rfl rfl ?_
        refine wp_iload_n dX2_step_108 rfl rfl ?_
        refine wp_callS0 (d' := d - 1) cs_RX2_120 [(0, (ltA f z ((lxA f z x : Nat) : Int)))] [(2, 23)] rfl rfl (Nat.le_of_ble_eq_true rfl) dX2_step_109 rfl (Nat.le_of_ble_eq_true rfl) (by omega) (loc1 := [(0, (ltA f z ((lxA f z x : Nat) : Int)))]) rfl ?_
        refine sp_isSign (by omega) (ltA f z ((lxA f z x : Nat) : Int)) (by omega) (fun hG => ?_) (fun hG => ?_)
        · refine wp_if_eq (tgt := 119) dX2_step_112 (by decide) (fun h => absurd h (by decide)) (fun _ => ?_)
          refine wp_iload_n dX2_step_115 rfl rfl ?_
          refine wp_goto (tgt := 120) dX2_step_116 (by decide) ?_
          refine wp_puti 23 rfl fl_RX2_67 rfl ⟨by omega, by omega⟩ dX2_step_120 rfl rfl ?_
          refine wp_vret rfl dX2_step_123 ?_
          have hL1 : ¬ ltr (ltA f z ((lxA f z x : Nat) : Int)) = true := by rw [hL]; decide
          have hD1 : ¬ dgt (ltA f z ((lxA f z x : Nat) : Int)) = true := by rw [hD]; decide
          refine kk _ (f2.tr ((Fr.rf.put ⟨rfl, by omega⟩).put ⟨rfl, by omega⟩)) ⟨hx3, ?_, ?_, ?_⟩
          · show ((lxA f z x : Nat) : Int) + 1 = _
            unfold lxN
            rw [if_neg h58, if_neg hL1, if_neg hD1]
            omega
          · show (ltA f z ((lxA f z x : Nat) : Int)) = lxT f z x
            unfold lxT
            rw [if_neg h58, if_neg hL1, if_neg hD1, if_pos hG]
          · intro h2
            exfalso
            unfold lxT at h2
            rw [if_neg h58, if_neg hL1, if_neg hD1, if_pos hG] at h2
            exact sgnC2 _ ⟨hG, h2⟩
        · refine wp_if_eq (tgt := 119) dX2_step_112 (by decide) (fun _ => ?_) (fun h => absurd h (by decide))
          refine wp_iconst dX2_step_119 (by decide) ?_
          refine wp_puti 23 rfl fl_RX2_67 rfl ⟨by omega, by omega⟩ dX2_step_120 rfl rfl ?_
          refine wp_vret rfl dX2_step_123 ?_
          have hL1 : ¬ ltr (ltA f z ((lxA f z x : Nat) : Int)) = true := by rw [hL]; decide
          have hD1 : ¬ dgt (ltA f z ((lxA f z x : Nat) : Int)) = true := by rw [hD]; decide
          refine kk _ (f2.tr ((Fr.rf.put ⟨rfl, by omega⟩).put ⟨rfl, by omega⟩)) ⟨hx3, ?_, ?_, ?_⟩
          · show ((lxA f z x : Nat) : Int) + 1 = _
            unfold lxN
            rw [if_neg h58, if_neg hL1, if_neg hD1]
            omega
          · show 1 = lxT f z x
            unfold lxT
            rw [if_neg h58, if_neg hL1, if_neg hD1, if_neg (by rw [hG]; decide)]
          · intro h2
            exfalso
            unfold lxT at h2
            rw [if_neg h58, if_neg hL1, if_neg hD1, if_neg (by rw [hG]; decide)] at h2
            omega
  · refine wp_aload_n dX2_step_61 rfl rfl ?_
    refine wp_iconst dX2_step_62 (by decide) ?_
    refine wp_puti 23 rfl fl_RX2_67 rfl ⟨by omega, by omega⟩ dX2_step_63 rfl rfl ?_
    refine wp_goto (tgt := 123) dX2_step_66 (by decide) ?_
    refine wp_vret rfl dX2_step_123 ?_
    refine kk _ (f2.tr (Fr.rf.put ⟨rfl, by omega⟩)) ⟨hx3, ?_, ?_, ?_⟩
    · exact (show _ from hx4 : (mu M2 23 5 0) 23 4 = _).trans (by unfold lxN; rw [if_pos h58])
    · exact (show (0 : Int) = _ by unfold lxT; rw [if_pos h58])
    · intro h2
      exfalso
      unfold lxT at h2
      rw [if_pos h58] at h2
      omega
