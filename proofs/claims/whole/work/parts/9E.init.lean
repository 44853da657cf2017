/-! ===== the class's constructor ===== -/
def Z0 : Mm := fun _ _ => 0
def ini0 : Mm := (mu (mu (mu (mu (mu (mu (mu (mu (mu (mu (mu (mu (mu (mu (mu (mu (mu (mu (mu (mu (mu (mu (mu (mu (mu (mu (mu (mu (mu (mu (mu (mu (mu (mu (mu (mu (mu (mu (mu (mu (mu (mu (mu (mu (mu (mu (mu (mu (mu (mu (mu (mu (mu (mu (mu (mu (mu (mu (mu (mu (mu Z0 2 4 3) 2 5 4) 2 6 5) 2 7 6) 2 8 7) 2 9 8) 1 0 2) 9 4 10) 9 5 11) 9 6 12) 9 7 13) 9 8 14) 9 9 15) 1 1 9) 16 4 17) 16 5 18) 16 6 19) 16 7 20) 16 8 21) 16 9 22) 1 2 16) 23 0 24) 1 4 23) 25 0 26) 27 0 28) 27 1 29) 27 3 30) 26 0 27) 31 0 32) 31 1 33) 31 3 34) 26 1 31) 35 0 36) 35 1 37) 35 3 38) 26 2 35) 39 0 40) 39 1 41) 39 3 42) 26 3 39) 43 0 44) 43 1 45) 43 3 46) 26 4 43) 47 0 48) 47 1 49) 47 3 50) 26 5 47) 1 5 25) 51 0 25) 1 6 51) 52 1 53) 52 2 54) 52 4 55) 52 6 56) 52 7 57) 52 8 58) 52 9 59) 52 0 51) 1 7 52) 1 8 60)
set_option maxRecDepth 20000 in
set_option maxHeartbeats 4000000 in
theorem init_a  {l : Launch} {g : Gw} {d : Nat} {Q : Option Wd → Mm → Prop} (hd : 10 ≤ d) (k : Wp l g d 8 172 60 m_X7_init 97 [] [(2, 1), (9, 0)] ini0 Q) : Wp l g d 67 5860 1 m_X7_init 0 [] [(2, 1), (9, 0)] Z0 Q := by
  refine wp_aload_n dX7_init_0 rfl rfl ?_
  refine wp_obj 1 rfl (by decide) ol_RX7_1 obj_i obj_c (by decide) (by omega) rfl dX7_init_1 ?_
  refine wp_aload_n dX7_init_4 rfl rfl ?_
  refine wp_new (a := 66) (b := 5850) (c := 0) (N := 10) rfl (by decide) (by decide) cl_RX7_7 ins_RX0 ini_RX0 dX7_init_5 ?_
  change Wp _ _ _ 66 5850 2 _ _ ((2, 2) :: _) _ _ _
  refine wp_dup dX7_init_8 (Or.inr rfl) ?_
  refine wp_callI (a1 := 6) (b1 := 30) (a := 60) (b := 5820) (d' := d - 1) ci_RX7_9 rfl 2 rfl [] [(2, 2), (2, 1)] rfl rfl (by decide) (Nat.le_of_ble_eq_true rfl) dX7_init_9 rfl (Nat.le_of_ble_eq_true rfl) (by omega) ?_
  change Wp _ _ _ 6 30 2 m_X0_init 0 [] [(2, 2)] _ _
  refine wp_aload_n dX0_init_0 rfl rfl ?_
  refine wp_obj 2 rfl (by decide) ol_RX0_3 obj_i obj_c (by decide) (by omega) rfl dX0_init_1 ?_
  refine wp_aload_n dX0_init_4 rfl rfl ?_
  refine wp_iconst dX0_init_5 (by decide) ?_
  refine wp_newa (t := 0) (a := 5) (b := 25) (c := 10) (N := 5) rfl (Or.inl ⟨rfl, rfl⟩) rfl (by decide) (by decide) arc_int dX0_init_6 ?_
  change Wp _ _ _ 5 25 3 _ _ ((2, 3) :: _) _ _ _
  refine wp_putFa 2 rfl fl_RX0_9 rfl ⟨by omega, by omega⟩ dX0_init_8 rfl (Or.inr ⟨_, rfl⟩) rfl rfl rfl (by omega) ?_
  refine wp_aload_n dX0_init_11 rfl rfl ?_
  refine wp_iconst dX0_init_12 (by decide) ?_
  refine wp_newa (t := 0) (a := 4) (b := 20) (c := 10) (N := 5) rfl (Or.inl ⟨rfl, rfl⟩) rfl (by decide) (by decide) arc_int dX0_init_13 ?_
  change Wp _ _ _ 4 20 4 _ _ ((2, 4) :: _) _ _ _
  refine wp_putFa 2 rfl fl_RX0_15 rfl ⟨by omega, by omega⟩ dX0_init_15 rfl (Or.inr ⟨_, rfl⟩) rfl rfl rfl (by omega) ?_
  refine wp_aload_n dX0_init_18 rfl rfl ?_
  refine wp_iconst dX0_init_19 (by decide) ?_
  refine wp_newa (t := 0) (a := 3) (b := 15) (c := 10) (N := 5) rfl (Or.inl ⟨rfl, rfl⟩) rfl (by decide) (by decide) arc_int dX0_init_20 ?_
  change Wp _ _ _ 3 15 5 _ _ ((2, 5) :: _) _ _ _
  refine wp_putFa 2 rfl fl_RX0_18 rfl ⟨by omega, by omega⟩ dX0_init_22 rfl (Or.inr ⟨_, rfl⟩) rfl rfl rfl (by omega) ?_
  refine wp_aload_n dX0_init_25 rfl rfl ?_
  refine wp_iconst dX0_init_26 (by decide) ?_
  refine wp_newa (t := 0) (a := 2) (b := 10) (c := 10) (N := 5) rfl (Or.inl ⟨rfl, rfl⟩) rfl (by decide) (by decide) arc_int dX0_init_27 ?_
  change Wp _ _ _ 2 10 6 _ _ ((2, 6) :: _) _ _ _
  refine wp_putFa 2 rfl fl_RX0_21 rfl ⟨by omega, by omega⟩ dX0_init_29 rfl (Or.inr ⟨_, rfl⟩) rfl rfl rfl (by omega) ?_
  refine wp_aload_n dX0_init_32 rfl rfl ?_
  refine wp_iconst dX0_init_33 (by decide) ?_
  refine wp_newa (t := 0) (a := 1) (b := 5) (c := 10) (N := 5) rfl (Or.inl ⟨rfl, rfl⟩) rfl (by decide) (by decide) arc_int dX0_init_34 ?_
  change Wp _ _ _ 1 5 7 _ _ ((2, 7) :: _) _ _ _
  refine wp_putFa 2 rfl fl_RX0_24 rfl ⟨by omega, by omega⟩ dX0_init_36 rfl (Or.inr ⟨_, rfl⟩) rfl rfl rfl (by omega) ?_
  refine wp_aload_n dX0_init_39 rfl rfl ?_
  refine wp_iconst dX0_init_40 (by decide) ?_
  refine wp_newa (t := 0) (a := 0) (b := 0) (c := 10) (N := 5) rfl (Or.inl ⟨rfl, rfl⟩) rfl (by decide) (by decide) arc_int dX0_init_41 ?_
  change Wp _ _ _ 0 0 8 _ _ ((2, 8) :: _) _ _ _
  refine wp_putFa 2 rfl fl_RX0_27 rfl ⟨by omega, by omega⟩ dX0_init_43 rfl (Or.inr ⟨_, rfl⟩) rfl rfl rfl (by omega) ?_
  refine wp_vret rfl dX0_init_46 ?_
  change Wp _ _ _ 60 5820 8 _ 12 [(2, 2), (2, 1)] _ _ _
  refine wp_putFa 1 rfl fl_RX7_10 rfl ⟨by omega, by omega⟩ dX7_init_12 rfl (Or.inl ⟨_, rfl⟩) rfl rfl rfl (by omega) ?_
  refine wp_aload_n dX7_init_15 rfl rfl ?_
  refine wp_new (a := 59) (b := 5810) (c := 0) (N := 10) rfl (by decide) (by decide) cl_RX7_7 ins_RX0 ini_RX0 dX7_init_16 ?_
  change Wp _ _ _ 59 5810 9 _ _ ((2, 9) :: _) _ _ _
  refine wp_dup dX7_init_19 (Or.inr rfl) ?_
  refine wp_callI (a1 := 6) (b1 := 30) (a := 53) (b := 5780) (d' := d - 1) ci_RX7_9 rfl 9 rfl [] [(2, 9), (2, 1)] rfl rfl (by decide) (Nat.le_of_ble_eq_true rfl) dX7_init_20 rfl (Nat.le_of_ble_eq_true rfl) (by omega) ?_
  change Wp _ _ _ 6 30 9 m_X0_init 0 [] [(2, 9)] _ _
  refine wp_aload_n dX0_init_0 rfl rfl ?_
  refine wp_obj 9 rfl (by decide) ol_RX0_3 obj_i obj_c (by decide) (by omega) rfl dX0_init_1 ?_
  refine wp_aload_n dX0_init_4 rfl rfl ?_
  refine wp_iconst dX0_init_5 (by decide) ?_
  refine wp_newa (t := 0) (a := 5) (b := 25) (c := 10) (N := 5) rfl (Or.inl ⟨rfl, rfl⟩) rfl (by decide) (by decide) arc_int dX0_init_6 ?_
  change Wp _ _ _ 5 25 10 _ _ ((2, 10) :: _) _ _ _
  refine wp_putFa 9 rfl fl_RX0_9 rfl ⟨by omega, by omega⟩ dX0_init_8 rfl (Or.inr ⟨_, rfl⟩) rfl rfl rfl (by omega) ?_
  refine wp_aload_n dX0_init_11 rfl rfl ?_
  refine wp_iconst dX0_init_12 (by decide) ?_
  refine wp_newa (t := 0) (a := 4) (b := 20) (c := 10) (N := 5) rfl (Or.inl ⟨rfl, rfl⟩) rfl (by decide) (by decide) arc_int dX0_init_13 ?_
  change Wp _ _ _ 4 20 11 _ _ ((2, 11) :: _) _ _ _
  refine wp_putFa 9 rfl fl_RX0_15 rfl ⟨by omega, by omega⟩ dX0_init_15 rfl (Or.inr ⟨_, rfl⟩) rfl rfl rfl (by omega) ?_
  refine wp_aload_n dX0_init_18 rfl rfl ?_
  refine wp_iconst dX0_init_19 (by decide) ?_
  refine wp_newa (t := 0) (a := 3) (b := 15) (c := 10) (N := 5) rfl (Or.inl ⟨rfl, rfl⟩) rfl (by decide) (by decide) arc_int dX0_init_20 ?_
  change Wp _ _ _ 3 15 12 _ _ ((2, 12) :: _) _ _ _
  refine wp_putFa 9 rfl fl_RX0_18 rfl ⟨by omega, by omega⟩ dX0_init_22 rfl (Or.inr ⟨_, rfl⟩) rfl rfl rfl (by omega) ?_
  refine wp_aload_n dX0_init_25 rfl rfl ?_
  refine wp_iconst dX0_init_26 (by decide) ?_
  refine wp_newa (t := 0) (a := 2) (b := 10) (c := 10) (N := 5) rfl (Or.inl ⟨rfl, rfl⟩) rfl (by decide) (by decide) arc_int dX0_init_27 ?_
  change Wp _ _ _ 2 10 13 _ _ ((2, 13) :: _) _ _ _
  refine wp_putFa 9 rfl fl_RX0_21 rfl ⟨by omega, by omega⟩ dX0_init_29 rfl (Or.inr ⟨_, rfl⟩) rfl rfl rfl (by omega) ?_
  refine wp_aload_n dX0_init_32 rfl rfl ?_
  refine wp_iconst dX0_init_33 (by decide) ?_
  refine wp_newa (t := 0) (a := 1) (b := 5) (c := 10) (N := 5) rfl (Or.inl ⟨rfl, rfl⟩) rfl (by decide) (by decide) arc_int dX0_init_34 ?_
  change Wp _ _ _ 1 5 14 _ _ ((2, 14) :: _) _ _ _
  refine wp_putFa 9 rfl fl_RX0_24 rfl ⟨by omega, by omega⟩ dX0_init_36 rfl (Or.inr ⟨_, rfl⟩) rfl rfl rfl (by omega) ?_
  refine wp_aload_n dX0_init_39 rfl rfl ?_
  refine wp_iconst dX0_init_40 (by decide) ?_
  refine wp_newa (t := 0) (a := 0) (b := 0) (c := 10) (N := 5) rfl (Or.inl ⟨rfl, rfl⟩) rfl (by decide) (by decide) arc_int dX0_init_41 ?_
  change Wp _ _ _ 0 0 15 _ _ ((2, 15) :: _) _ _ _
  refine wp_putFa 9 rfl fl_RX0_27 rfl ⟨by omega, by omega⟩ dX0_init_43 rfl (Or.inr ⟨_, rfl⟩) rfl rfl rfl (by omega) ?_
  refine wp_vret rfl dX0_init_46 ?_
  change Wp _ _ _ 53 5780 15 _ 23 [(2, 9), (2, 1)] _ _ _
  refine wp_putFa 1 rfl fl_RX7_16 rfl ⟨by omega, by omega⟩ dX7_init_23 rfl (Or.inl ⟨_, rfl⟩) rfl rfl rfl (by omega) ?_
  refine wp_aload_n dX7_init_26 rfl rfl ?_
  refine wp_new (a := 52) (b := 5770) (c := 0) (N := 10) rfl (by decide) (by decide) cl_RX7_7 ins_RX0 ini_RX0 dX7_init_27 ?_
  change Wp _ _ _ 52 5770 16 _ _ ((2, 16) :: _) _ _ _
  refine wp_dup dX7_init_30 (Or.inr rfl) ?_
  refine wp_callI (a1 := 6) (b1 := 30) (a := 46) (b := 5740) (d' := d - 1) ci_RX7_9 rfl 16 rfl [] [(2, 16), (2, 1)] rfl rfl (by decide) (Nat.le_of_ble_eq_true rfl) dX7_init_31 rfl (Nat.le_of_ble_eq_true rfl) (by omega) ?_
  change Wp _ _ _ 6 30 16 m_X0_init 0 [] [(2, 16)] _ _
  refine wp_aload_n dX0_init_0 rfl rfl ?_
  refine wp_obj 16 rfl (by decide) ol_RX0_3 obj_i obj_c (by decide) (by omega) rfl dX0_init_1 ?_
  refine wp_aload_n dX0_init_4 rfl rfl ?_
  refine wp_iconst dX0_init_5 (by decide) ?_
  refine wp_newa (t := 0) (a := 5) (b := 25) (c := 10) (N := 5) rfl (Or.inl ⟨rfl, rfl⟩) rfl (by decide) (by decide) arc_int dX0_init_6 ?_
  change Wp _ _ _ 5 25 17 _ _ ((2, 17) :: _) _ _ _
  refine wp_putFa 16 rfl fl_RX0_9 rfl ⟨by omega, by omega⟩ dX0_init_8 rfl (Or.inr ⟨_, rfl⟩) rfl rfl rfl (by omega) ?_
  refine wp_aload_n dX0_init_11 rfl rfl ?_
  refine wp_iconst dX0_init_12 (by decide) ?_
  refine wp_newa (t := 0) (a := 4) (b := 20) (c := 10) (N := 5) rfl (Or.inl ⟨rfl, rfl⟩) rfl (by decide) (by decide) arc_int dX0_init_13 ?_
  change Wp _ _ _ 4 20 18 _ _ ((2, 18) :: _) _ _ _
  refine wp_putFa 16 rfl fl_RX0_15 rfl ⟨by omega, by omega⟩ dX0_init_15 rfl (Or.inr ⟨_, rfl⟩) rfl rfl rfl (by omega) ?_
  refine wp_aload_n dX0_init_18 rfl rfl ?_
  refine wp_iconst dX0_init_19 (by decide) ?_
  refine wp_newa (t := 0) (a := 3) (b := 15) (c := 10) (N := 5) rfl (Or.inl ⟨rfl, rfl⟩) rfl (by decide) (by decide) arc_int dX0_init_20 ?_
  change Wp _ _ _ 3 15 19 _ _ ((2, 19) :: _) _ _ _
  refine wp_putFa 16 rfl fl_RX0_18 rfl ⟨by omega, by omega⟩ dX0_init_22 rfl (Or.inr ⟨_, rfl⟩) rfl rfl rfl (by omega) ?_
  refine wp_aload_n dX0_init_25 rfl rfl ?_
  refine wp_iconst dX0_init_26 (by decide) ?_
  refine wp_newa (t := 0) (a := 2) (b := 10) (c := 10) (N := 5) rfl (Or.inl ⟨rfl, rfl⟩) rfl (by decide) (by decide) arc_int dX0_init_27 ?_
  change Wp _ _ _ 2 10 20 _ _ ((2, 20) :: _) _ _ _
  refine wp_putFa 16 rfl fl_RX0_21 rfl ⟨by omega, by omega⟩ dX0_init_29 rfl (Or.inr ⟨_, rfl⟩) rfl rfl rfl (by omega) ?_
  refine wp_aload_n dX0_init_32 rfl rfl ?_
  refine wp_iconst dX0_init_33 (by decide) ?_
  refine wp_newa (t := 0) (a := 1) (b := 5) (c := 10) (N := 5) rfl (Or.inl ⟨rfl, rfl⟩) rfl (by decide) (by decide) arc_int dX0_init_34 ?_
  change Wp _ _ _ 1 5 21 _ _ ((2, 21) :: _) _ _ _
  refine wp_putFa 16 rfl fl_RX0_24 rfl ⟨by omega, by omega⟩ dX0_init_36 rfl (Or.inr ⟨_, rfl⟩) rfl rfl rfl (by omega) ?_
  refine wp_aload_n dX0_init_39 rfl rfl ?_
  refine wp_iconst dX0_init_40 (by decide) ?_
  refine wp_newa (t := 0) (a := 0) (b := 0) (c := 10) (N := 5) rfl (Or.inl ⟨rfl, rfl⟩) rfl (by decide) (by decide) arc_int dX0_init_41 ?_
  change Wp _ _ _ 0 0 22 _ _ ((2, 22) :: _) _ _ _
  refine wp_putFa 16 rfl fl_RX0_27 rfl ⟨by omega, by omega⟩ dX0_init_43 rfl (Or.inr ⟨_, rfl⟩) rfl rfl rfl (by omega) ?_
  refine wp_vret rfl dX0_init_46 ?_
  change Wp _ _ _ 46 5740 22 _ 34 [(2, 16), (2, 1)] _ _ _
  refine wp_putFa 1 rfl fl_RX7_19 rfl ⟨by omega, by omega⟩ dX7_init_34 rfl (Or.inl ⟨_, rfl⟩) rfl rfl rfl (by omega) ?_
  refine wp_aload_n dX7_init_37 rfl rfl ?_
  refine wp_new (a := 45) (b := 5731) (c := 2) (N := 9) rfl (by decide) (by decide) cl_RX7_22 ins_RX2 ini_RX2 dX7_init_38 ?_
  change Wp _ _ _ 45 5731 23 _ _ ((2, 23) :: _) _ _ _
  refine wp_dup dX7_init_41 (Or.inr rfl) ?_
  refine wp_callI (a1 := 1) (b1 := 160) (a := 44) (b := 5571) (d' := d - 1) ci_RX7_24 rfl 23 rfl [] [(2, 23), (2, 1)] rfl rfl (by decide) (Nat.le_of_ble_eq_true rfl) dX7_init_42 rfl (Nat.le_of_ble_eq_true rfl) (by omega) ?_
  change Wp _ _ _ 1 160 23 m_X2_init 0 [] [(2, 23)] _ _
  refine wp_aload_n dX2_init_0 rfl rfl ?_
  refine wp_obj 23 rfl (by decide) ol_RX2_5 obj_i obj_c (by decide) (by omega) rfl dX2_init_1 ?_
  refine wp_aload_n dX2_init_4 rfl rfl ?_
  refine wp_sipush dX2_init_5 (by decide) (by decide) ?_
  refine wp_newa (t := 0) (a := 0) (b := 0) (c := 10) (N := 160) rfl (Or.inl ⟨rfl, rfl⟩) rfl (by decide) (by decide) arc_int dX2_init_8 ?_
  change Wp _ _ _ 0 0 24 _ _ ((2, 24) :: _) _ _ _
  refine wp_putFa 23 rfl fl_RX2_11 rfl ⟨by omega, by omega⟩ dX2_init_10 rfl (Or.inr ⟨_, rfl⟩) rfl rfl rfl (by omega) ?_
  refine wp_vret rfl dX2_init_13 ?_
  change Wp _ _ _ 44 5571 24 _ 45 [(2, 23), (2, 1)] _ _ _
  refine wp_putFa 1 rfl fl_RX7_25 rfl ⟨by omega, by omega⟩ dX7_init_45 rfl (Or.inl ⟨_, rfl⟩) rfl rfl rfl (by omega) ?_
  refine wp_aload_n dX7_init_48 rfl rfl ?_
  refine wp_new (a := 43) (b := 5569) (c := 6) (N := 2) rfl (by decide) (by decide) cl_RX7_29 ins_RX6 ini_RX6 dX7_init_49 ?_
  change Wp _ _ _ 43 5569 25 _ _ ((2, 25) :: _) _ _ _
  refine wp_dup dX7_init_52 (Or.inr rfl) ?_
  refine wp_callI (a1 := 25) (b1 := 1974) (a := 18) (b := 3595) (d' := d - 1) ci_RX7_31 rfl 25 rfl [] [(2, 25), (2, 1)] rfl rfl (by decide) (Nat.le_of_ble_eq_true rfl) dX7_init_53 rfl (Nat.le_of_ble_eq_true rfl) (by omega) ?_
  change Wp _ _ _ 25 1974 25 m_X6_init 0 [] [(2, 25), (9, 0)] _ _
  refine wp_aload_n dX6_init_0 rfl rfl ?_
  refine wp_obj 25 rfl (by decide) ol_RX6_1 obj_i obj_c (by decide) (by omega) rfl dX6_init_1 ?_
  refine wp_aload_n dX6_init_4 rfl rfl ?_
  refine wp_bipush dX6_init_5 (by decide) (by decide) ?_
  refine wp_anew (a := 24) (b := 1968) (c := 12) (N := 6) rfl (Or.inl ⟨rfl, rfl⟩) rfl (by decide) (by decide) cl_RX6_9 dX6_init_7 ?_
  change Wp _ _ _ 24 1968 26 _ _ ((2, 26) :: _) _ _ _
  refine wp_putFa 25 rfl fl_RX6_11 rfl ⟨by omega, by omega⟩ dX6_init_10 rfl (Or.inr ⟨_, rfl⟩) rfl rfl rfl (by omega) ?_
  refine wp_iconst dX6_init_13 (by decide) ?_
  refine wp_istore_n (loc' := [(2, 25), (0, 0)]) dX6_init_14 rfl (Nat.le_of_ble_eq_true rfl) rfl ?_
  refine wp_iload_n dX6_init_15 rfl rfl ?_
  refine wp_bipush dX6_init_16 (by decide) (by decide) ?_
  refine wp_icmp_ge (tgt := 40) dX6_init_18 (by decide) (fun h => absurd h (by decide)) (fun _ => ?_)
  refine wp_aload_n dX6_init_21 rfl rfl ?_
  refine wp_get 25 rfl fl_RX6_11 rfl ⟨by omega, by omega⟩ dX6_init_22 rfl (v := 26) (rfl) ?_
  refine wp_iload_n dX6_init_25 rfl rfl ?_
  refine wp_new (a := 23) (b := 1963) (c := 5) (N := 5) rfl (by decide) (by decide) cl_RX6_9 ins_RX5 ini_RX5 dX6_init_26 ?_
  change Wp _ _ _ 23 1963 27 _ _ ((2, 27) :: _) _ _ _
  refine wp_dup dX6_init_29 (Or.inr rfl) ?_
  refine wp_callI (a1 := 3) (b1 := 323) (a := 20) (b := 1640) (d' := d - 2) ci_RX6_15 rfl 27 rfl [] [(2, 27), (0, 0), (2, 26)] rfl rfl (by decide) (Nat.le_of_ble_eq_true rfl) dX6_init_30 rfl (Nat.le_of_ble_eq_true rfl) (by omega) ?_
  change Wp _ _ _ 3 323 27 m_X5_init 0 [] [(2, 27)] _ _
  refine wp_aload_n dX5_init_0 rfl rfl ?_
  refine wp_obj 27 rfl (by decide) ol_RX5_1 obj_i obj_c (by decide) (by omega) rfl dX5_init_1 ?_
  refine wp_aload_n dX5_init_4 rfl rfl ?_
  refine wp_sipush dX5_init_5 (by decide) (by decide) ?_
  refine wp_newa (t := 0) (a := 2) (b := 163) (c := 10) (N := 160) rfl (Or.inl ⟨rfl, rfl⟩) rfl (by decide) (by decide) arc_int dX5_init_8 ?_
  change Wp _ _ _ 2 163 28 _ _ ((2, 28) :: _) _ _ _
  refine wp_putFa 27 rfl fl_RX5_9 rfl ⟨by omega, by omega⟩ dX5_init_10 rfl (Or.inr ⟨_, rfl⟩) rfl rfl rfl (by omega) ?_
  refine wp_aload_n dX5_init_13 rfl rfl ?_
  refine wp_iconst dX5_init_14 (by decide) ?_
  refine wp_newa (t := 0) (a := 1) (b := 160) (c := 10) (N := 3) rfl (Or.inl ⟨rfl, rfl⟩) rfl (by decide) (by decide) arc_int dX5_init_15 ?_
  change Wp _ _ _ 1 160 29 _ _ ((2, 29) :: _) _ _ _
  refine wp_putFa 27 rfl fl_RX5_15 rfl ⟨by omega, by omega⟩ dX5_init_17 rfl (Or.inr ⟨_, rfl⟩) rfl rfl rfl (by omega) ?_
  refine wp_aload_n dX5_init_20 rfl rfl ?_
  refine wp_sipush dX5_init_21 (by decide) (by decide) ?_
  refine wp_newa (t := 0) (a := 0) (b := 0) (c := 10) (N := 160) rfl (Or.inl ⟨rfl, rfl⟩) rfl (by decide) (by decide) arc_int dX5_init_24 ?_
  change Wp _ _ _ 0 0 30 _ _ ((2, 30) :: _) _ _ _
  refine wp_putFa 27 rfl fl_RX5_18 rfl ⟨by omega, by omega⟩ dX5_init_26 rfl (Or.inr ⟨_, rfl⟩) rfl rfl rfl (by omega) ?_
  refine wp_vret rfl dX5_init_29 ?_
  change Wp _ _ _ 20 1640 30 _ 33 [(2, 27), (0, 0), (2, 26)] _ _ _
  refine wp_aast 26 rfl 27 rfl (t := 2) rfl rfl (by decide) ⟨by omega, by omega⟩ ⟨by omega, by omega⟩ ⟨by omega, by omega⟩ dX6_init_33 ?_
  refine wp_iinc (loc' := [(2, 25), (0, 1)]) dX6_init_34 rfl (by omega) rfl ?_
  refine wp_goto (tgt := 15) dX6_init_37 (by decide) ?_
  refine wp_iload_n dX6_init_15 rfl rfl ?_
  refine wp_bipush dX6_init_16 (by decide) (by decide) ?_
  refine wp_icmp_ge (tgt := 40) dX6_init_18 (by decide) (fun h => absurd h (by decide)) (fun _ => ?_)
  refine wp_aload_n dX6_init_21 rfl rfl ?_
  refine wp_get 25 rfl fl_RX6_11 rfl ⟨by omega, by omega⟩ dX6_init_22 rfl (v := 26) (rfl) ?_
  refine wp_iload_n dX6_init_25 rfl rfl ?_
  refine wp_new (a := 19) (b := 1635) (c := 5) (N := 5) rfl (by decide) (by decide) cl_RX6_9 ins_RX5 ini_RX5 dX6_init_26 ?_
  change Wp _ _ _ 19 1635 31 _ _ ((2, 31) :: _) _ _ _
  refine wp_dup dX6_init_29 (Or.inr rfl) ?_
  refine wp_callI (a1 := 3) (b1 := 323) (a := 16) (b := 1312) (d' := d - 2) ci_RX6_15 rfl 31 rfl [] [(2, 31), (0, 1), (2, 26)] rfl rfl (by decide) (Nat.le_of_ble_eq_true rfl) dX6_init_30 rfl (Nat.le_of_ble_eq_true rfl) (by omega) ?_
  change Wp _ _ _ 3 323 31 m_X5_init 0 [] [(2, 31)] _ _
  refine wp_aload_n dX5_init_0 rfl rfl ?_
  refine wp_obj 31 rfl (by decide) ol_RX5_1 obj_i obj_c (by decide) (by omega) rfl dX5_init_1 ?_
  refine wp_aload_n dX5_init_4 rfl rfl ?_
  refine wp_sipush dX5_init_5 (by decide) (by decide) ?_
  refine wp_newa (t := 0) (a := 2) (b := 163) (c := 10) (N := 160) rfl (Or.inl ⟨rfl, rfl⟩) rfl (by decide) (by decide) arc_int dX5_init_8 ?_
  change Wp _ _ _ 2 163 32 _ _ ((2, 32) :: _) _ _ _
  refine wp_putFa 31 rfl fl_RX5_9 rfl ⟨by omega, by omega⟩ dX5_init_10 rfl (Or.inr ⟨_, rfl⟩) rfl rfl rfl (by omega) ?_
  refine wp_aload_n dX5_init_13 rfl rfl ?_
  refine wp_iconst dX5_init_14 (by decide) ?_
  refine wp_newa (t := 0) (a := 1) (b := 160) (c := 10) (N := 3) rfl (Or.inl ⟨rfl, rfl⟩) rfl (by decide) (by decide) arc_int dX5_init_15 ?_
  change Wp _ _ _ 1 160 33 _ _ ((2, 33) :: _) _ _ _
  refine wp_putFa 31 rfl fl_RX5_15 rfl ⟨by omega, by omega⟩ dX5_init_17 rfl (Or.inr ⟨_, rfl⟩) rfl rfl rfl (by omega) ?_
  refine wp_aload_n dX5_init_20 rfl rfl ?_
  refine wp_sipush dX5_init_21 (by decide) (by decide) ?_
  refine wp_newa (t := 0) (a := 0) (b := 0) (c := 10) (N := 160) rfl (Or.inl ⟨rfl, rfl⟩) rfl (by decide) (by decide) arc_int dX5_init_24 ?_
  change Wp _ _ _ 0 0 34 _ _ ((2, 34) :: _) _ _ _
  refine wp_putFa 31 rfl fl_RX5_18 rfl ⟨by omega, by omega⟩ dX5_init_26 rfl (Or.inr ⟨_, rfl⟩) rfl rfl rfl (by omega) ?_
  refine wp_vret rfl dX5_init_29 ?_
  change Wp _ _ _ 16 1312 34 _ 33 [(2, 31), (0, 1), (2, 26)] _ _ _
  refine wp_aast 26 rfl 31 rfl (t := 2) rfl rfl (by decide) ⟨by omega, by omega⟩ ⟨by omega, by omega⟩ ⟨by omega, by omega⟩ dX6_init_33 ?_
  refine wp_iinc (loc' := [(2, 25), (0, 2)]) dX6_init_34 rfl (by omega) rfl ?_
  refine wp_goto (tgt := 15) dX6_init_37 (by decide) ?_
  refine wp_iload_n dX6_init_15 rfl rfl ?_
  refine wp_bipush dX6_init_16 (by decide) (by decide) ?_
  refine wp_icmp_ge (tgt := 40) dX6_init_18 (by decide) (fun h => absurd h (by decide)) (fun _ => ?_)
  refine wp_aload_n dX6_init_21 rfl rfl ?_
  refine wp_get 25 rfl fl_RX6_11 rfl ⟨by omega, by omega⟩ dX6_init_22 rfl (v := 26) (rfl) ?_
  refine wp_iload_n dX6_init_25 rfl rfl ?_
  refine wp_new (a := 15) (b := 1307) (c := 5) (N := 5) rfl (by decide) (by decide) cl_RX6_9 ins_RX5 ini_RX5 dX6_init_26 ?_
  change Wp _ _ _ 15 1307 35 _ _ ((2, 35) :: _) _ _ _
  refine wp_dup dX6_init_29 (Or.inr rfl) ?_
  refine wp_callI (a1 := 3) (b1 := 323) (a := 12) (b := 984) (d' := d - 2) ci_RX6_15 rfl 35 rfl [] [(2, 35), (0, 2), (2, 26)] rfl rfl (by decide) (Nat.le_of_ble_eq_true rfl) dX6_init_30 rfl (Nat.le_of_ble_eq_true rfl) (by omega) ?_
  change Wp _ _ _ 3 323 35 m_X5_init 0 [] [(2, 35)] _ _
  refine wp_aload_n dX5_init_0 rfl rfl ?_
  refine wp_obj 35 rfl (by decide) ol_RX5_1 obj_i obj_c (by decide) (by omega) rfl dX5_init_1 ?_
  refine wp_aload_n dX5_init_4 rfl rfl ?_
  refine wp_sipush dX5_init_5 (by decide) (by decide) ?_
  refine wp_newa (t := 0) (a := 2) (b := 163) (c := 10) (N := 160) rfl (Or.inl ⟨rfl, rfl⟩) rfl (by decide) (by decide) arc_int dX5_init_8 ?_
  change Wp _ _ _ 2 163 36 _ _ ((2, 36) :: _) _ _ _
  refine wp_putFa 35 rfl fl_RX5_9 rfl ⟨by omega, by omega⟩ dX5_init_10 rfl (Or.inr ⟨_, rfl⟩) rfl rfl rfl (by omega) ?_
  refine wp_aload_n dX5_init_13 rfl rfl ?_
  refine wp_iconst dX5_init_14 (by decide) ?_
  refine wp_newa (t := 0) (a := 1) (b := 160) (c := 10) (N := 3) rfl (Or.inl ⟨rfl, rfl⟩) rfl (by decide) (by decide) arc_int dX5_init_15 ?_
  change Wp _ _ _ 1 160 37 _ _ ((2, 37) :: _) _ _ _
  refine wp_putFa 35 rfl fl_RX5_15 rfl ⟨by omega, by omega⟩ dX5_init_17 rfl (Or.inr ⟨_, rfl⟩) rfl rfl rfl (by omega) ?_
  refine wp_aload_n dX5_init_20 rfl rfl ?_
  refine wp_sipush dX5_init_21 (by decide) (by decide) ?_
  refine wp_newa (t := 0) (a := 0) (b := 0) (c := 10) (N := 160) rfl (Or.inl ⟨rfl, rfl⟩) rfl (by decide) (by decide) arc_int dX5_init_24 ?_
  change Wp _ _ _ 0 0 38 _ _ ((2, 38) :: _) _ _ _
  refine wp_putFa 35 rfl fl_RX5_18 rfl ⟨by omega, by omega⟩ dX5_init_26 rfl (Or.inr ⟨_, rfl⟩) rfl rfl rfl (by omega) ?_
  refine wp_vret rfl dX5_init_29 ?_
  change Wp _ _ _ 12 984 38 _ 33 [(2, 35), (0, 2), (2, 26)] _ _ _
  refine wp_aast 26 rfl 35 rfl (t := 2) rfl rfl (by decide) ⟨by omega, by omega⟩ ⟨by omega, by omega⟩ ⟨by omega, by omega⟩ dX6_init_33 ?_
  refine wp_iinc (loc' := [(2, 25), (0, 3)]) dX6_init_34 rfl (by omega) rfl ?_
  refine wp_goto (tgt := 15) dX6_init_37 (by decide) ?_
  refine wp_iload_n dX6_init_15 rfl rfl ?_
  refine wp_bipush dX6_init_16 (by decide) (by decide) ?_
  refine wp_icmp_ge (tgt := 40) dX6_init_18 (by decide) (fun h => absurd h (by decide)) (fun _ => ?_)
  refine wp_aload_n dX6_init_21 rfl rfl ?_
  refine wp_get 25 rfl fl_RX6_11 rfl ⟨by omega, by omega⟩ dX6_init_22 rfl (v := 26) (rfl) ?_
  refine wp_iload_n dX6_init_25 rfl rfl ?_
  refine wp_new (a := 11) (b := 979) (c := 5) (N := 5) rfl (by decide) (by decide) cl_RX6_9 ins_RX5 ini_RX5 dX6_init_26 ?_
  change Wp _ _ _ 11 979 39 _ _ ((2, 39) :: _) _ _ _
  refine wp_dup dX6_init_29 (Or.inr rfl) ?_
  refine wp_callI (a1 := 3) (b1 := 323) (a := 8) (b := 656) (d' := d - 2) ci_RX6_15 rfl 39 rfl [] [(2, 39), (0, 3), (2, 26)] rfl rfl (by decide) (Nat.le_of_ble_eq_true rfl) dX6_init_30 rfl (Nat.le_of_ble_eq_true rfl) (by omega) ?_
  change Wp _ _ _ 3 323 39 m_X5_init 0 [] [(2, 39)] _ _
  refine wp_aload_n dX5_init_0 rfl rfl ?_
  refine wp_obj 39 rfl (by decide) ol_RX5_1 obj_i obj_c (by decide) (by omega) rfl dX5_init_1 ?_
  refine wp_aload_n dX5_init_4 rfl rfl ?_
  refine wp_sipush dX5_init_5 (by decide) (by decide) ?_
  refine wp_newa (t := 0) (a := 2) (b := 163) (c := 10) (N := 160) rfl (Or.inl ⟨rfl, rfl⟩) rfl (by decide) (by decide) arc_int dX5_init_8 ?_
  change Wp _ _ _ 2 163 40 _ _ ((2, 40) :: _) _ _ _
  refine wp_putFa 39 rfl fl_RX5_9 rfl ⟨by omega, by omega⟩ dX5_init_10 rfl (Or.inr ⟨_, rfl⟩) rfl rfl rfl (by omega) ?_
  refine wp_aload_n dX5_init_13 rfl rfl ?_
  refine wp_iconst dX5_init_14 (by decide) ?_
  refine wp_newa (t := 0) (a := 1) (b := 160) (c := 10) (N := 3) rfl (Or.inl ⟨rfl, rfl⟩) rfl (by decide) (by decide) arc_int dX5_init_15 ?_
  change Wp _ _ _ 1 160 41 _ _ ((2, 41) :: _) _ _ _
  refine wp_putFa 39 rfl fl_RX5_15 rfl ⟨by omega, by omega⟩ dX5_init_17 rfl (Or.inr ⟨_, rfl⟩) rfl rfl rfl (by omega) ?_
  refine wp_aload_n dX5_init_20 rfl rfl ?_
  refine wp_sipush dX5_init_21 (by decide) (by decide) ?_
  refine wp_newa (t := 0) (a := 0) (b := 0) (c := 10) (N := 160) rfl (Or.inl ⟨rfl, rfl⟩) rfl (by decide) (by decide) arc_int dX5_init_24 ?_
  change Wp _ _ _ 0 0 42 _ _ ((2, 42) :: _) _ _ _
  refine wp_putFa 39 rfl fl_RX5_18 rfl ⟨by omega, by omega⟩ dX5_init_26 rfl (Or.inr ⟨_, rfl⟩) rfl rfl rfl (by omega) ?_
  refine wp_vret rfl dX5_init_29 ?_
  change Wp _ _ _ 8 656 42 _ 33 [(2, 39), (0, 3), (2, 26)] _ _ _
  refine wp_aast 26 rfl 39 rfl (t := 2) rfl rfl (by decide) ⟨by omega, by omega⟩ ⟨by omega, by omega⟩ ⟨by omega, by omega⟩ dX6_init_33 ?_
  refine wp_iinc (loc' := [(2, 25), (0, 4)]) dX6_init_34 rfl (by omega) rfl ?_
  refine wp_goto (tgt := 15) dX6_init_37 (by decide) ?_
  refine wp_iload_n dX6_init_15 rfl rfl ?_
  refine wp_bipush dX6_init_16 (by decide) (by decide) ?_
  refine wp_icmp_ge (tgt := 40) dX6_init_18 (by decide) (fun h => absurd h (by decide)) (fun _ => ?_)
  refine wp_aload_n dX6_init_21 rfl rfl ?_
  refine wp_get 25 rfl fl_RX6_11 rfl ⟨by omega, by omega⟩ dX6_init_22 rfl (v := 26) (rfl) ?_
  refine wp_iload_n dX6_init_25 rfl rfl ?_
  refine wp_new (a := 7) (b := 651) (c := 5) (N := 5) rfl (by decide) (by decide) cl_RX6_9 ins_RX5 ini_RX5 dX6_init_26 ?_
  change Wp _ _ _ 7 651 43 _ _ ((2, 43) :: _) _ _ _
  refine wp_dup dX6_init_29 (Or.inr rfl) ?_
  refine wp_callI (a1 := 3) (b1 := 323) (a := 4) (b := 328) (d' := d - 2) ci_RX6_15 rfl 43 rfl [] [(2, 43), (0, 4), (2, 26)] rfl rfl (by decide) (Nat.le_of_ble_eq_true rfl) dX6_init_30 rfl (Nat.le_of_ble_eq_true rfl) (by omega) ?_
  change Wp _ _ _ 3 323 43 m_X5_init 0 [] [(2, 43)] _ _
  refine wp_aload_n dX5_init_0 rfl rfl ?_
  refine wp_obj 43 rfl (by decide) ol_RX5_1 obj_i obj_c (by decide) (by omega) rfl dX5_init_1 ?_
  refine wp_aload_n dX5_init_4 rfl rfl ?_
  refine wp_sipush dX5_init_5 (by decide) (by decide) ?_
  refine wp_newa (t := 0) (a := 2) (b := 163) (c := 10) (N := 160) rfl (Or.inl ⟨rfl, rfl⟩) rfl (by decide) (by decide) arc_int dX5_init_8 ?_
  change Wp _ _ _ 2 163 44 _ _ ((2, 44) :: _) _ _ _
  refine wp_putFa 43 rfl fl_RX5_9 rfl ⟨by omega, by omega⟩ dX5_init_10 rfl (Or.inr ⟨_, rfl⟩) rfl rfl rfl (by omega) ?_
  refine wp_aload_n dX5_init_13 rfl rfl ?_
  refine wp_iconst dX5_init_14 (by decide) ?_
  refine wp_newa (t := 0) (a := 1) (b := 160) (c := 10) (N := 3) rfl (Or.inl ⟨rfl, rfl⟩) rfl (by decide) (by decide) arc_int dX5_init_15 ?_
  change Wp _ _ _ 1 160 45 _ _ ((2, 45) :: _) _ _ _
  refine wp_putFa 43 rfl fl_RX5_15 rfl ⟨by omega, by omega⟩ dX5_init_17 rfl (Or.inr ⟨_, rfl⟩) rfl rfl rfl (by omega) ?_
  refine wp_aload_n dX5_init_20 rfl rfl ?_
  refine wp_sipush dX5_init_21 (by decide) (by decide) ?_
  refine wp_newa (t := 0) (a := 0) (b := 0) (c := 10) (N := 160) rfl (Or.inl ⟨rfl, rfl⟩) rfl (by decide) (by decide) arc_int dX5_init_24 ?_
  change Wp _ _ _ 0 0 46 _ _ ((2, 46) :: _) _ _ _
  refine wp_putFa 43 rfl fl_RX5_18 rfl ⟨by omega, by omega⟩ dX5_init_26 rfl (Or.inr ⟨_, rfl⟩) rfl rfl rfl (by omega) ?_
  refine wp_vret rfl dX5_init_29 ?_
  change Wp _ _ _ 4 328 46 _ 33 [(2, 43), (0, 4), (2, 26)] _ _ _
  refine wp_aast 26 rfl 43 rfl (t := 2) rfl rfl (by decide) ⟨by omega, by omega⟩ ⟨by omega, by omega⟩ ⟨by omega, by omega⟩ dX6_init_33 ?_
  refine wp_iinc (loc' := [(2, 25), (0, 5)]) dX6_init_34 rfl (by omega) rfl ?_
  refine wp_goto (tgt := 15) dX6_init_37 (by decide) ?_
  refine wp_iload_n dX6_init_15 rfl rfl ?_
  refine wp_bipush dX6_init_16 (by decide) (by decide) ?_
  refine wp_icmp_ge (tgt := 40) dX6_init_18 (by decide) (fun h => absurd h (by decide)) (fun _ => ?_)
  refine wp_aload_n dX6_init_21 rfl rfl ?_
  refine wp_get 25 rfl fl_RX6_11 rfl ⟨by omega, by omega⟩ dX6_init_22 rfl (v := 26) (rfl) ?_
  refine wp_iload_n dX6_init_25 rfl rfl ?_
  refine wp_new (a := 3) (b := 323) (c := 5) (N := 5) rfl (by decide) (by decide) cl_RX6_9 ins_RX5 ini_RX5 dX6_init_26 ?_
  change Wp _ _ _ 3 323 47 _ _ ((2, 47) :: _) _ _ _
  refine wp_dup dX6_init_29 (Or.inr rfl) ?_
  refine wp_callI (a1 := 3) (b1 := 323) (a := 0) (b := 0) (d' := d - 2) ci_RX6_15 rfl 47 rfl [] [(2, 47), (0, 5), (2, 26)] rfl rfl (by decide) (Nat.le_of_ble_eq_true rfl) dX6_init_30 rfl (Nat.le_of_ble_eq_true rfl) (by omega) ?_
  change Wp _ _ _ 3 323 47 m_X5_init 0 [] [(2, 47)] _ _
  refine wp_aload_n dX5_init_0 rfl rfl ?_
  refine wp_obj 47 rfl (by decide) ol_RX5_1 obj_i obj_c (by decide) (by omega) rfl dX5_init_1 ?_
  refine wp_aload_n dX5_init_4 rfl rfl ?_
  refine wp_sipush dX5_init_5 (by decide) (by decide) ?_
  refine wp_newa (t := 0) (a := 2) (b := 163) (c := 10) (N := 160) rfl (Or.inl ⟨rfl, rfl⟩) rfl (by decide) (by decide) arc_int dX5_init_8 ?_
  change Wp _ _ _ 2 163 48 _ _ ((2, 48) :: _) _ _ _
  refine wp_putFa 47 rfl fl_RX5_9 rfl ⟨by omega, by omega⟩ dX5_init_10 rfl (Or.inr ⟨_, rfl⟩) rfl rfl rfl (by omega) ?_
  refine wp_aload_n dX5_init_13 rfl rfl ?_
  refine wp_iconst dX5_init_14 (by decide) ?_
  refine wp_newa (t := 0) (a := 1) (b := 160) (c := 10) (N := 3) rfl (Or.inl ⟨rfl, rfl⟩) rfl (by decide) (by decide) arc_int dX5_init_15 ?_
  change Wp _ _ _ 1 160 49 _ _ ((2, 49) :: _) _ _ _
  refine wp_putFa 47 rfl fl_RX5_15 rfl ⟨by omega, by omega⟩ dX5_init_17 rfl (Or.inr ⟨_, rfl⟩) rfl rfl rfl (by omega) ?_
  refine wp_aload_n dX5_init_20 rfl rfl ?_
  refine wp_sipush dX5_init_21 (by decide) (by decide) ?_
  refine wp_newa (t := 0) (a := 0) (b := 0) (c := 10) (N := 160) rfl (Or.inl ⟨rfl, rfl⟩) rfl (by decide) (by decide) arc_int dX5_init_24 ?_
  change Wp _ _ _ 0 0 50 _ _ ((2, 50) :: _) _ _ _
  refine wp_putFa 47 rfl fl_RX5_18 rfl ⟨by omega, by omega⟩ dX5_init_26 rfl (Or.inr ⟨_, rfl⟩) rfl rfl rfl (by omega) ?_
  refine wp_vret rfl dX5_init_29 ?_
  change Wp _ _ _ 0 0 50 _ 33 [(2, 47), (0, 5), (2, 26)] _ _ _
  refine wp_aast 26 rfl 47 rfl (t := 2) rfl rfl (by decide) ⟨by omega, by omega⟩ ⟨by omega, by omega⟩ ⟨by omega, by omega⟩ dX6_init_33 ?_
  refine wp_iinc (loc' := [(2, 25), (0, 6)]) dX6_init_34 rfl (by omega) rfl ?_
  refine wp_goto (tgt := 15) dX6_init_37 (by decide) ?_
  refine wp_iload_n dX6_init_15 rfl rfl ?_
  refine wp_bipush dX6_init_16 (by decide) (by decide) ?_
  refine wp_icmp_ge (tgt := 40) dX6_init_18 (by decide) (fun _ => ?_) (fun h => absurd h (by decide))
  refine wp_vret rfl dX6_init_40 ?_
  change Wp _ _ _ 18 3595 50 _ 56 [(2, 25), (2, 1)] _ _ _
  refine wp_putFa 1 rfl fl_RX7_32 rfl ⟨by omega, by omega⟩ dX7_init_56 rfl (Or.inl ⟨_, rfl⟩) rfl rfl rfl (by omega) ?_
  refine wp_aload_n dX7_init_59 rfl rfl ?_
  refine wp_new (a := 17) (b := 3594) (c := 1) (N := 1) rfl (by decide) (by decide) cl_RX7_36 ins_RX1 ini_RX1 dX7_init_60 ?_
  change Wp _ _ _ 17 3594 51 _ _ ((2, 51) :: _) _ _ _
  refine wp_dup dX7_init_63 (Or.inr rfl) ?_
  refine wp_aload_n dX7_init_64 rfl rfl ?_
  refine wp_get 1 rfl fl_RX7_32 rfl ⟨by omega, by omega⟩ dX7_init_65 rfl (v := 25) (rfl) ?_
  refine wp_callI (a1 := 0) (b1 := 0) (a := 17) (b := 3594) (d' := d - 1) ci_RX7_38 rfl 51 rfl [(2, 25)] [(2, 51), (2, 1)] rfl rfl (by decide) (Nat.le_of_ble_eq_true rfl) dX7_init_68 rfl (Nat.le_of_ble_eq_true rfl) (by omega) ?_
  change Wp _ _ _ 0 0 51 m_X1_init 0 [] [(2, 51), (2, 25)] _ _
  refine wp_aload_n dX1_init_0 rfl rfl ?_
  refine wp_obj 51 rfl (by decide) ol_RX1_3 obj_i obj_c (by decide) (by omega) rfl dX1_init_1 ?_
  refine wp_aload_n dX1_init_4 rfl rfl ?_
  refine wp_aload_n dX1_init_5 rfl rfl ?_
  refine wp_putFa 51 rfl fl_RX1_9 rfl ⟨by omega, by omega⟩ dX1_init_6 rfl (Or.inl ⟨_, rfl⟩) rfl rfl rfl (by omega) ?_
  refine wp_vret rfl dX1_init_9 ?_
  change Wp _ _ _ 17 3594 51 _ 71 [(2, 51), (2, 1)] _ _ _
  refine wp_putFa 1 rfl fl_RX7_41 rfl ⟨by omega, by omega⟩ dX7_init_71 rfl (Or.inl ⟨_, rfl⟩) rfl rfl rfl (by omega) ?_
  refine wp_aload_n dX7_init_74 rfl rfl ?_
  refine wp_new (a := 16) (b := 3581) (c := 3) (N := 13) rfl (by decide) (by decide) cl_RX7_45 ins_RX3 ini_RX3 dX7_init_75 ?_
  change Wp _ _ _ 16 3581 52 _ _ ((2, 52) :: _) _ _ _
  refine wp_dup dX7_init_78 (Or.inr rfl) ?_
  refine wp_aload_n dX7_init_79 rfl rfl ?_
  refine wp_get 1 rfl fl_RX7_41 rfl ⟨by omega, by omega⟩ dX7_init_80 rfl (v := 51) (rfl) ?_
  refine wp_callI (a1 := 7) (b1 := 3405) (a := 9) (b := 176) (d' := d - 1) ci_RX7_47 rfl 52 rfl [(2, 51)] [(2, 52), (2, 1)] rfl rfl (by decide) (Nat.le_of_ble_eq_true rfl) dX7_init_83 rfl (Nat.le_of_ble_eq_true rfl) (by omega) ?_
  change Wp _ _ _ 7 3405 52 m_X3_init 0 [] [(2, 52), (2, 51)] _ _
  refine wp_aload_n dX3_init_0 rfl rfl ?_
  refine wp_obj 52 rfl (by decide) ol_RX3_3 obj_i obj_c (by decide) (by omega) rfl dX3_init_1 ?_
  refine wp_aload_n dX3_init_4 rfl rfl ?_
  refine wp_bipush dX3_init_5 (by decide) (by decide) ?_
  refine wp_newa (t := 0) (a := 6) (b := 3285) (c := 10) (N := 120) rfl (Or.inl ⟨rfl, rfl⟩) rfl (by decide) (by decide) arc_int dX3_init_7 ?_
  change Wp _ _ _ 6 3285 53 _ _ ((2, 53) :: _) _ _ _
  refine wp_putFa 52 rfl fl_RX3_11 rfl ⟨by omega, by omega⟩ dX3_init_9 rfl (Or.inr ⟨_, rfl⟩) rfl rfl rfl (by omega) ?_
  refine wp_aload_n dX3_init_12 rfl rfl ?_
  refine wp_bipush dX3_init_13 (by decide) (by decide) ?_
  refine wp_newa (t := 0) (a := 5) (b := 3165) (c := 10) (N := 120) rfl (Or.inl ⟨rfl, rfl⟩) rfl (by decide) (by decide) arc_int dX3_init_15 ?_
  change Wp _ _ _ 5 3165 54 _ _ ((2, 54) :: _) _ _ _
  refine wp_putFa 52 rfl fl_RX3_15 rfl ⟨by omega, by omega⟩ dX3_init_17 rfl (Or.inr ⟨_, rfl⟩) rfl rfl rfl (by omega) ?_
  refine wp_aload_n dX3_init_20 rfl rfl ?_
  refine wp_sipush dX3_init_21 (by decide) (by decide) ?_
  refine wp_newa (t := 0) (a := 4) (b := 40) (c := 10) (N := 3125) rfl (Or.inl ⟨rfl, rfl⟩) rfl (by decide) (by decide) arc_int dX3_init_24 ?_
  change Wp _ _ _ 4 40 55 _ _ ((2, 55) :: _) _ _ _
  refine wp_putFa 52 rfl fl_RX3_18 rfl ⟨by omega, by omega⟩ dX3_init_26 rfl (Or.inr ⟨_, rfl⟩) rfl rfl rfl (by omega) ?_
  refine wp_aload_n dX3_init_29 rfl rfl ?_
  refine wp_iconst dX3_init_30 (by decide) ?_
  refine wp_newa (t := 0) (a := 3) (b := 35) (c := 10) (N := 5) rfl (Or.inl ⟨rfl, rfl⟩) rfl (by decide) (by decide) arc_int dX3_init_31 ?_
  change Wp _ _ _ 3 35 56 _ _ ((2, 56) :: _) _ _ _
  refine wp_putFa 52 rfl fl_RX3_21 rfl ⟨by omega, by omega⟩ dX3_init_33 rfl (Or.inr ⟨_, rfl⟩) rfl rfl rfl (by omega) ?_
  refine wp_aload_n dX3_init_36 rfl rfl ?_
  refine wp_bipush dX3_init_37 (by decide) (by decide) ?_
  refine wp_newa (t := 0) (a := 2) (b := 10) (c := 11) (N := 25) rfl (Or.inr ⟨rfl, rfl⟩) rfl (by decide) (by decide) arc_boolean dX3_init_39 ?_
  change Wp _ _ _ 2 10 57 _ _ ((2, 57) :: _) _ _ _
  refine wp_putFa 52 rfl fl_RX3_24 rfl ⟨by omega, by omega⟩ dX3_init_41 rfl (Or.inr ⟨_, rfl⟩) rfl rfl rfl (by omega) ?_
  refine wp_aload_n dX3_init_44 rfl rfl ?_
  refine wp_iconst dX3_init_45 (by decide) ?_
  refine wp_newa (t := 0) (a := 1) (b := 5) (c := 10) (N := 5) rfl (Or.inl ⟨rfl, rfl⟩) rfl (by decide) (by decide) arc_int dX3_init_46 ?_
  change Wp _ _ _ 1 5 58 _ _ ((2, 58) :: _) _ _ _
  refine wp_putFa 52 rfl fl_RX3_28 rfl ⟨by omega, by omega⟩ dX3_init_48 rfl (Or.inr ⟨_, rfl⟩) rfl rfl rfl (by omega) ?_
  refine wp_aload_n dX3_init_51 rfl rfl ?_
  refine wp_iconst dX3_init_52 (by decide) ?_
  refine wp_newa (t := 0) (a := 0) (b := 0) (c := 10) (N := 5) rfl (Or.inl ⟨rfl, rfl⟩) rfl (by decide) (by decide) arc_int dX3_init_53 ?_
  change Wp _ _ _ 0 0 59 _ _ ((2, 59) :: _) _ _ _
  refine wp_putFa 52 rfl fl_RX3_31 rfl ⟨by omega, by omega⟩ dX3_init_55 rfl (Or.inr ⟨_, rfl⟩) rfl rfl rfl (by omega) ?_
  refine wp_aload_n dX3_init_58 rfl rfl ?_
  refine wp_aload_n dX3_init_59 rfl rfl ?_
  refine wp_putFa 52 rfl fl_RX3_34 rfl ⟨by omega, by omega⟩ dX3_init_60 rfl (Or.inl ⟨_, rfl⟩) rfl rfl rfl (by omega) ?_
  refine wp_vret rfl dX3_init_63 ?_
  change Wp _ _ _ 9 176 59 _ 86 [(2, 52), (2, 1)] _ _ _
  refine wp_putFa 1 rfl fl_RX7_50 rfl ⟨by omega, by omega⟩ dX7_init_86 rfl (Or.inl ⟨_, rfl⟩) rfl rfl rfl (by omega) ?_
  refine wp_aload_n dX7_init_89 rfl rfl ?_
  refine wp_iconst dX7_init_90 (by decide) ?_
  refine wp_anew (a := 8) (b := 172) (c := 13) (N := 4) rfl (Or.inr ⟨rfl, rfl⟩) rfl (by decide) (by decide) cl_RX7_54 dX7_init_91 ?_
  change Wp _ _ _ 8 172 60 _ _ ((2, 60) :: _) _ _ _
  refine wp_putFa 1 rfl fl_RX7_56 rfl ⟨by omega, by omega⟩ dX7_init_94 rfl (Or.inr ⟨_, rfl⟩) rfl rfl rfl (by omega) ?_
  exact k
theorem ini0_sr : SRr ini0 := by unfold SRr; decide +kernel
theorem ini0_fr : Fr (fun i _ => i < 69) Z0 ini0 := by
  unfold ini0
  refine Fr.put ?_ (by decide)
  refine Fr.put ?_ (by decide)
  refine Fr.put ?_ (by decide)
  refine Fr.put ?_ (by decide)
  refine Fr.put ?_ (by decide)
  refine Fr.put ?_ (by decide)
  refine Fr.put ?_ (by decide)
  refine Fr.put ?_ (by decide)
  refine Fr.put ?_ (by decide)
  refine Fr.put ?_ (by decide)
  refine Fr.put ?_ (by decide)
  refine Fr.put ?_ (by decide)
  refine Fr.put ?_ (by decide)
  refine Fr.put ?_ (by decide)
  refine Fr.put ?_ (by decide)
  refine Fr.put ?_ (by decide)
  refine Fr.put ?_ (by decide)
  refine Fr.put ?_ (by decide)
  refine Fr.put ?_ (by decide)
  refine Fr.put ?_ (by decide)
  refine Fr.put ?_ (by decide)
  refine Fr.put ?_ (by decide)
  refine Fr.put ?_ (by decide)
  refine Fr.put ?_ (by decide)
  refine Fr.put ?_ (by decide)
  refine Fr.put ?_ (by decide)
  refine Fr.put ?_ (by decide)
  refine Fr.put ?_ (by decide)
  refine Fr.put ?_ (by decide)
  refine Fr.put ?_ (by decide)
  refine Fr.put ?_ (by decide)
  refine Fr.put ?_ (by decide)
  refine Fr.put ?_ (by decide)
  refine Fr.put ?_ (by decide)
  refine Fr.put ?_ (by decide)
  refine Fr.put ?_ (by decide)
  refine Fr.put ?_ (by decide)
  refine Fr.put ?_ (by decide)
  refine Fr.put ?_ (by decide)
  refine Fr.put ?_ (by decide)
  refine Fr.put ?_ (by decide)
  refine Fr.put ?_ (by decide)
  refine Fr.put ?_ (by decide)
  refine Fr.put ?_ (by decide)
  refine Fr.put ?_ (by decide)
  refine Fr.put ?_ (by decide)
  refine Fr.put ?_ (by decide)
  refine Fr.put ?_ (by decide)
  refine Fr.put ?_ (by decide)
  refine Fr.put ?_ (by decide)
  refine Fr.put ?_ (by decide)
  refine Fr.put ?_ (by decide)
  refine Fr.put ?_ (by decide)
  refine Fr.put ?_ (by decide)
  refine Fr.put ?_ (by decide)
  refine Fr.put ?_ (by decide)
  refine Fr.put ?_ (by decide)
  refine Fr.put ?_ (by decide)
  refine Fr.put ?_ (by decide)
  refine Fr.put ?_ (by decide)
  refine Fr.put ?_ (by decide)
  exact Fr.rf
def INI (M : Mm) : Prop := SRr M ∧ (M 60 0 = 61 ∧ M 61 0 = 62 ∧ M 60 1 = 63 ∧ M 63 0 = 64 ∧ M 60 2 = 65 ∧ M 65 0 = 66 ∧ M 60 3 = 67 ∧ M 67 0 = 68) ∧ (∀ i j, 69 ≤ i → M i j = 0) ∧ M 25 1 = 1 ∧ (∃ q, txtP fcT0 45 = .inr q ∧ TXC M 27 q) ∧ M 23 1 = 0 ∧ (M 2 0 = 0 ∧ M 2 1 = 0 ∧ M 2 2 = 0 ∧ M 2 3 = 0) ∧ M 1 3 = 0 ∧ M 52 5 = 0 ∧ (∀ c, M 55 c = 0) ∧ ∀ s, s < 4 → M (61 + 2 * s) 1 = -1 ∧ M (61 + 2 * s) 2 = 0
theorem TXC.frm {M M' : Mm} {T : Nat} {q : (List Int × Vl) × (List Int × Vl) × (List Int × Vl)} (h : TXC M T q) (e : ∀ i j, T ≤ i → i ≤ T + 2 → ¬ (i = T ∧ j ≠ 2) → M' i j = M i j) : TXC M' T q :=
  ⟨⟨(e _ _ (by omega) (by omega) (by omega)).trans h.1.1, fun k hk => (e _ _ (by omega) (by omega) (by omega)).trans (h.1.2 k hk)⟩, (e _ _ (by omega) (by omega) (by omega)).trans h.2.1, (e _ _ (by omega) (by omega) (by omega)).trans h.2.2.1, (e _ _ (by omega) (by omega) (by omega)).trans h.2.2.2⟩
set_option maxRecDepth 20000 in
set_option maxHeartbeats 4000000 in
theorem init_b  {l : Launch} {g : Gw} {d : Nat} {Q : Option Wd → Mm → Prop} (hd : 70 ≤ d) (k : ∀ M', INI M' → Q none M') : Wp l g d 8 172 60 m_X7_init 97 [] [(2, 1), (9, 0)] ini0 Q := by
  refine wp_aload_n dX7_init_97 rfl rfl ?_
  refine wp_get 1 rfl fl_RX7_25 rfl ⟨by omega, by omega⟩ dX7_init_98 rfl (v := 23) (qr_1_4 (M := ini0) ini0_sr) ?_
  refine wp_ldcS 0 rfl dX7_init_101 (x := 1000) rfl ?_
  refine wp_callV0 (d' := d - 1) cv_RX7_62 23 rfl [(2, 1000)] [] rfl rfl (Or.inl ⟨_, _, rfl, by decide, rfl, by omega, by omega⟩) (by omega) (Nat.le_of_ble_eq_true rfl) dX7_init_103 rfl (Nat.le_of_ble_eq_true rfl) (by omega) (loc1 := [(2, 23), (2, 1000), (9, 0)]) rfl ?_
  refine sp_layR (by decide) (by omega) ini0_sr rfl (fun M1 F1 z1 t1 F1z => ?_)
  have R1 : SRr M1 := Vly.sr F1 ini0_sr
  have e24 : M1 24 = fcT0 := by
    funext j
    by_cases c : j < 45
    · rw [t1 j c]
      exact (if_pos c).symm
    · rw [F1z j c]
      exact (if_neg c).symm
  refine wp_aload_n dX7_init_106 rfl rfl ?_
  refine wp_get 1 rfl fl_RX7_25 rfl ⟨by omega, by omega⟩ dX7_init_107 rfl (v := 23) (qr_1_4 (M := M1) R1) ?_
  refine wp_aload_n dX7_init_110 rfl rfl ?_
  refine wp_get 1 rfl fl_RX7_32 rfl ⟨by omega, by omega⟩ dX7_init_111 rfl (v := 25) (qr_1_5 (M := M1) R1) ?_
  refine wp_callV0 (d' := d - 1) cv_RX7_66 25 rfl [] [(2, 23)] rfl rfl (Or.inl ⟨_, _, rfl, by decide, rfl, by omega, by omega⟩) (by omega) (Nat.le_of_ble_eq_true rfl) dX7_init_114 rfl (Nat.le_of_ble_eq_true rfl) (by omega) (loc1 := [(2, 25)]) rfl ?_
  refine wp_aload_n dX6_spare_0 rfl rfl ?_
  refine wp_get 25 rfl fl_RX6_11 rfl ⟨by omega, by omega⟩ dX6_spare_1 rfl (v := 26) (qr_25_0 (M := M1) R1) ?_
  refine wp_aload_n dX6_spare_4 rfl rfl ?_
  refine wp_get 25 rfl fl_RX6_16 rfl ⟨by omega, by omega⟩ dX6_spare_5 rfl (v := 0) (((F1 25 1 (by unfold Vly; omega)).trans rfl)) ?_
  refine wp_if_lt (tgt := 20) dX6_spare_8 (by decide) (fun h => absurd h (by decide)) (fun _ => ?_)
  refine wp_aload_n dX6_spare_11 rfl rfl ?_
  refine wp_get 25 rfl fl_RX6_16 rfl ⟨by omega, by omega⟩ dX6_spare_12 rfl (v := 0) (((F1 25 1 (by unfold Vly; omega)).trans rfl)) ?_
  refine wp_bipush dX6_spare_15 (by decide) (by decide) ?_
  refine wp_icmp_lt (tgt := 24) dX6_spare_17 (by decide) (fun _ => ?_) (fun h => absurd h (by decide))
  refine wp_aload_n dX6_spare_24 rfl rfl ?_
  refine wp_get 25 rfl fl_RX6_16 rfl ⟨by omega, by omega⟩ dX6_spare_25 rfl (v := 0) (((F1 25 1 (by unfold Vly; omega)).trans rfl)) ?_
  refine wp_aald 26 rfl (t := 2) rfl (by decide) ⟨by omega, by omega⟩ ⟨by omega, by omega⟩ dX6_spare_28 (v := 27) (qr_26_0 (M := M1) R1) ?_
  refine wp_aret rfl (Or.inl ⟨_, rfl⟩) dX6_spare_29 ?_
  refine wp_callV0 (d' := d - 1) cv_RX7_70 23 rfl [(2, 27)] [] rfl rfl (Or.inl ⟨_, _, rfl, by decide, rfl, by omega, by omega⟩) (by omega) (Nat.le_of_ble_eq_true rfl) dX7_init_117 rfl (Nat.le_of_ble_eq_true rfl) (by omega) (loc1 := [(2, 23), (2, 27), (9, 0)]) rfl ?_
  have hP1 : TP M1 fcT0 45 := ⟨R1, e24, z1, by decide, by decide⟩
  have hB1 : BT fcT0 45 := fun i hi => by have e : fcT0 i = byt 0 i := if_pos (by omega); rw [e]; exact bt_c0 i (by omega)
  refine sp_readText (T := 27) (Or.inl rfl) (by decide) (by omega) hB1 hP1 (fun p M2 ep f2 z2 => absurd (show cdT (txtP fcT0 45) = none by rw [ep]; rfl) (by rw [cd_c0]; decide)) (fun q M2 eq f2 z2 t2 => ?_)
  have R2 : SRr M2 := VE.sr (Or.inl rfl) f2 R1
  refine wp_pop dX7_init_120 (Or.inl rfl) ?_
  refine wp_aload_n dX7_init_121 rfl rfl ?_
  refine wp_get 1 rfl fl_RX7_32 rfl ⟨by omega, by omega⟩ dX7_init_122 rfl (v := 25) (qr_1_5 (M := M2) R2) ?_
  refine wp_callV0 (d' := d - 1) cv_RX7_74 25 rfl [] [] rfl rfl (Or.inl ⟨_, _, rfl, by decide, rfl, by omega, by omega⟩) (by omega) (Nat.le_of_ble_eq_true rfl) dX7_init_125 rfl (Nat.le_of_ble_eq_true rfl) (by omega) (loc1 := [(2, 25)]) rfl ?_
  refine wp_aload_n dX6_takeSpare_0 rfl rfl ?_
  refine wp_callV0 (d' := d - 2) cv_RX6_20 25 rfl [] [] rfl rfl (Or.inl ⟨_, _, rfl, by decide, rfl, by omega, by omega⟩) (by omega) (Nat.le_of_ble_eq_true rfl) dX6_takeSpare_1 rfl (Nat.le_of_ble_eq_true rfl) (by omega) (loc1 := [(2, 25)]) rfl ?_
  refine wp_aload_n dX6_isFull_0 rfl rfl ?_
  refine wp_get 25 rfl fl_RX6_16 rfl ⟨by omega, by omega⟩ dX6_isFull_1 rfl (v := 0) (((f2 25 1 (by unfold VE; omega)).trans ((F1 25 1 (by unfold Vly; omega)).trans rfl))) ?_
  refine wp_bipush dX6_isFull_4 (by decide) (by decide) ?_
  refine wp_icmp_lt (tgt := 13) dX6_isFull_6 (by decide) (fun _ => ?_) (fun h => absurd h (by decide))
  refine wp_iconst dX6_isFull_13 (by decide) ?_
  refine wp_zret rfl (by omega) dX6_isFull_14 ?_
  refine wp_if_ne (tgt := 17) dX6_takeSpare_4 (by decide) (fun h => absurd h (by decide)) (fun _ => ?_)
  refine wp_aload_n dX6_takeSpare_7 rfl rfl ?_
  refine wp_dup dX6_takeSpare_8 (Or.inr rfl) ?_
  refine wp_get 25 rfl fl_RX6_16 rfl ⟨by omega, by omega⟩ dX6_takeSpare_9 rfl (v := 0) (((f2 25 1 (by unfold VE; omega)).trans ((F1 25 1 (by unfold Vly; omega)).trans rfl))) ?_
  refine wp_iconst dX6_takeSpare_12 (by decide) ?_
  refine wp_iadd dX6_takeSpare_13 (by omega) ?_
  refine wp_puti 25 rfl fl_RX6_16 rfl ⟨by omega, by omega⟩ dX6_takeSpare_14 rfl rfl ?_
  refine wp_aload_n dX6_takeSpare_17 rfl rfl ?_
  refine wp_get 25 rfl fl_RX6_16 rfl ⟨by omega, by omega⟩ dX6_takeSpare_18 rfl (v := 1) (rfl) ?_
  refine wp_iconst dX6_takeSpare_21 (by decide) ?_
  refine wp_isub dX6_takeSpare_22 (by omega) ?_
  refine wp_iret rfl dX6_takeSpare_23 ?_
  refine wp_pop dX7_init_128 (Or.inl rfl) ?_
  refine wp_iconst dX7_init_129 (by decide) ?_
  refine wp_istore_n (loc' := [(2, 1), (0, 0)]) dX7_init_130 rfl (Nat.le_of_ble_eq_true rfl) rfl ?_
  refine wp_iload_n dX7_init_131 rfl rfl ?_
  refine wp_iconst dX7_init_132 (by decide) ?_
  refine wp_icmp_ge (tgt := 155) dX7_init_133 (by decide) (fun h => absurd h (by decide)) (fun _ => ?_)
  refine wp_aload_n dX7_init_136 rfl rfl ?_
  refine wp_get 1 rfl fl_RX7_56 rfl ⟨by omega, by omega⟩ dX7_init_137 rfl (v := 60) (qr_1_8 (M := M2) R2) ?_
  refine wp_iload_n dX7_init_140 rfl rfl ?_
  refine wp_new (a := 7) (b := 169) (c := 4) (N := 3) rfl (by decide) (by decide) cl_RX7_54 ins_RX4 ini_RX4 dX7_init_141 ?_
  change Wp _ _ _ 7 169 61 _ _ ((2, 61) :: _) _ _ _
  refine wp_dup dX7_init_144 (Or.inr rfl) ?_
  refine wp_callI (a1 := 1) (b1 := 40) (a := 6) (b := 129) (d' := d - 1) ci_RX7_78 rfl 61 rfl [] [(2, 61), (0, 0), (2, 60)] rfl rfl (by decide) (Nat.le_of_ble_eq_true rfl) dX7_init_145 rfl (Nat.le_of_ble_eq_true rfl) (by omega) ?_
  change Wp _ _ _ 1 40 61 m_X4_init 0 [] [(2, 61)] _ _
  refine wp_aload_n dX4_init_0 rfl rfl ?_
  refine wp_obj 61 rfl (by decide) ol_RX4_1 obj_i obj_c (by decide) (by omega) rfl dX4_init_1 ?_
  refine wp_aload_n dX4_init_4 rfl rfl ?_
  refine wp_bipush dX4_init_5 (by decide) (by decide) ?_
  refine wp_newa (t := 0) (a := 0) (b := 0) (c := 10) (N := 40) rfl (Or.inl ⟨rfl, rfl⟩) rfl (by decide) (by decide) arc_int dX4_init_7 ?_
  change Wp _ _ _ 0 0 62 _ _ ((2, 62) :: _) _ _ _
  refine wp_putFa 61 rfl fl_RX4_9 rfl ⟨by omega, by omega⟩ dX4_init_9 rfl (Or.inr ⟨_, rfl⟩) rfl rfl rfl (by omega) ?_
  refine wp_aload_n dX4_init_12 rfl rfl ?_
  refine wp_iconst dX4_init_13 (by decide) ?_
  refine wp_puti 61 rfl fl_RX4_13 rfl ⟨by omega, by omega⟩ dX4_init_14 rfl rfl ?_
  refine wp_vret rfl dX4_init_17 ?_
  change Wp _ _ _ 6 129 62 _ 148 [(2, 61), (0, 0), (2, 60)] _ _ _
  refine wp_aast 60 rfl 61 rfl (t := 3) rfl rfl (by decide) ⟨by omega, by omega⟩ ⟨by omega, by omega⟩ ⟨by omega, by omega⟩ dX7_init_148 ?_
  refine wp_iinc (loc' := [(2, 1), (0, 1)]) dX7_init_149 rfl (by omega) rfl ?_
  refine wp_goto (tgt := 131) dX7_init_152 (by decide) ?_
  refine wp_iload_n dX7_init_131 rfl rfl ?_
  refine wp_iconst dX7_init_132 (by decide) ?_
  refine wp_icmp_ge (tgt := 155) dX7_init_133 (by decide) (fun h => absurd h (by decide)) (fun _ => ?_)
  refine wp_aload_n dX7_init_136 rfl rfl ?_
  refine wp_get 1 rfl fl_RX7_56 rfl ⟨by omega, by omega⟩ dX7_init_137 rfl (v := 60) (qr_1_8 (M := M2) R2) ?_
  refine wp_iload_n dX7_init_140 rfl rfl ?_
  refine wp_new (a := 5) (b := 126) (c := 4) (N := 3) rfl (by decide) (by decide) cl_RX7_54 ins_RX4 ini_RX4 dX7_init_141 ?_
  change Wp _ _ _ 5 126 63 _ _ ((2, 63) :: _) _ _ _
  refine wp_dup dX7_init_144 (Or.inr rfl) ?_
  refine wp_callI (a1 := 1) (b1 := 40) (a := 4) (b := 86) (d' := d - 1) ci_RX7_78 rfl 63 rfl [] [(2, 63), (0, 1), (2, 60)] rfl rfl (by decide) (Nat.le_of_ble_eq_true rfl) dX7_init_145 rfl (Nat.le_of_ble_eq_true rfl) (by omega) ?_
  change Wp _ _ _ 1 40 63 m_X4_init 0 [] [(2, 63)] _ _
  refine wp_aload_n dX4_init_0 rfl rfl ?_
  refine wp_obj 63 rfl (by decide) ol_RX4_1 obj_i obj_c (by decide) (by omega) rfl dX4_init_1 ?_
  refine wp_aload_n dX4_init_4 rfl rfl ?_
  refine wp_bipush dX4_init_5 (by decide) (by decide) ?_
  refine wp_newa (t := 0) (a := 0) (b := 0) (c := 10) (N := 40) rfl (Or.inl ⟨rfl, rfl⟩) rfl (by decide) (by decide) arc_int dX4_init_7 ?_
  change Wp _ _ _ 0 0 64 _ _ ((2, 64) :: _) _ _ _
  refine wp_putFa 63 rfl fl_RX4_9 rfl ⟨by omega, by omega⟩ dX4_init_9 rfl (Or.inr ⟨_, rfl⟩) rfl rfl rfl (by omega) ?_
  refine wp_aload_n dX4_init_12 rfl rfl ?_
  refine wp_iconst dX4_init_13 (by decide) ?_
  refine wp_puti 63 rfl fl_RX4_13 rfl ⟨by omega, by omega⟩ dX4_init_14 rfl rfl ?_
  refine wp_vret rfl dX4_init_17 ?_
  change Wp _ _ _ 4 86 64 _ 148 [(2, 63), (0, 1), (2, 60)] _ _ _
  refine wp_aast 60 rfl 63 rfl (t := 3) rfl rfl (by decide) ⟨by omega, by omega⟩ ⟨by omega, by omega⟩ ⟨by omega, by omega⟩ dX7_init_148 ?_
  refine wp_iinc (loc' := [(2, 1), (0, 2)]) dX7_init_149 rfl (by omega) rfl ?_
  refine wp_goto (tgt := 131) dX7_init_152 (by decide) ?_
  refine wp_iload_n dX7_init_131 rfl rfl ?_
  refine wp_iconst dX7_init_132 (by decide) ?_
  refine wp_icmp_ge (tgt := 155) dX7_init_133 (by decide) (fun h => absurd h (by decide)) (fun _ => ?_)
  refine wp_aload_n dX7_init_136 rfl rfl ?_
  refine wp_get 1 rfl fl_RX7_56 rfl ⟨by omega, by omega⟩ dX7_init_137 rfl (v := 60) (qr_1_8 (M := M2) R2) ?_
  refine wp_iload_n dX7_init_140 rfl rfl ?_
  refine wp_new (a := 3) (b := 83) (c := 4) (N := 3) rfl (by decide) (by decide) cl_RX7_54 ins_RX4 ini_RX4 dX7_init_141 ?_
  change Wp _ _ _ 3 83 65 _ _ ((2, 65) :: _) _ _ _
  refine wp_dup dX7_init_144 (Or.inr rfl) ?_
  refine wp_callI (a1 := 1) (b1 := 40) (a := 2) (b := 43) (d' := d - 1) ci_RX7_78 rfl 65 rfl [] [(2, 65), (0, 2), (2, 60)] rfl rfl (by decide) (Nat.le_of_ble_eq_true rfl) dX7_init_145 rfl (Nat.le_of_ble_eq_true rfl) (by omega) ?_
  change Wp _ _ _ 1 40 65 m_X4_init 0 [] [(2, 65)] _ _
  refine wp_aload_n dX4_init_0 rfl rfl ?_
  refine wp_obj 65 rfl (by decide) ol_RX4_1 obj_i obj_c (by decide) (by omega) rfl dX4_init_1 ?_
  refine wp_aload_n dX4_init_4 rfl rfl ?_
  refine wp_bipush dX4_init_5 (by decide) (by decide) ?_
  refine wp_newa (t := 0) (a := 0) (b := 0) (c := 10) (N := 40) rfl (Or.inl ⟨rfl, rfl⟩) rfl (by decide) (by decide) arc_int dX4_init_7 ?_
  change Wp _ _ _ 0 0 66 _ _ ((2, 66) :: _) _ _ _
  refine wp_putFa 65 rfl fl_RX4_9 rfl ⟨by omega, by omega⟩ dX4_init_9 rfl (Or.inr ⟨_, rfl⟩) rfl rfl rfl (by omega) ?_
  refine wp_aload_n dX4_init_12 rfl rfl ?_
  refine wp_iconst dX4_init_13 (by decide) ?_
  refine wp_puti 65 rfl fl_RX4_13 rfl ⟨by omega, by omega⟩ dX4_init_14 rfl rfl ?_
  refine wp_vret rfl dX4_init_17 ?_
  change Wp _ _ _ 2 43 66 _ 148 [(2, 65), (0, 2), (2, 60)] _ _ _
  refine wp_aast 60 rfl 65 rfl (t := 3) rfl rfl (by decide) ⟨by omega, by omega⟩ ⟨by omega, by omega⟩ ⟨by omega, by omega⟩ dX7_init_148 ?_
  refine wp_iinc (loc' := [(2, 1), (0, 3)]) dX7_init_149 rfl (by omega) rfl ?_
  refine wp_goto (tgt := 131) dX7_init_152 (by decide) ?_
  refine wp_iload_n dX7_init_131 rfl rfl ?_
  refine wp_iconst dX7_init_132 (by decide) ?_
  refine wp_icmp_ge (tgt := 155) dX7_init_133 (by decide) (fun h => absurd h (by decide)) (fun _ => ?_)
  refine wp_aload_n dX7_init_136 rfl rfl ?_
  refine wp_get 1 rfl fl_RX7_56 rfl ⟨by omega, by omega⟩ dX7_init_137 rfl (v := 60) (qr_1_8 (M := M2) R2) ?_
  refine wp_iload_n dX7_init_140 rfl rfl ?_
  refine wp_new (a := 1) (b := 40) (c := 4) (N := 3) rfl (by decide) (by decide) cl_RX7_54 ins_RX4 ini_RX4 dX7_init_141 ?_
  change Wp _ _ _ 1 40 67 _ _ ((2, 67) :: _) _ _ _
  refine wp_dup dX7_init_144 (Or.inr rfl) ?_
  refine wp_callI (a1 := 1) (b1 := 40) (a := 0) (b := 0) (d' := d - 1) ci_RX7_78 rfl 67 rfl [] [(2, 67), (0, 3), (2, 60)] rfl rfl (by decide) (Nat.le_of_ble_eq_true rfl) dX7_init_145 rfl (Nat.le_of_ble_eq_true rfl) (by omega) ?_
  change Wp _ _ _ 1 40 67 m_X4_init 0 [] [(2, 67)] _ _
  refine wp_aload_n dX4_init_0 rfl rfl ?_
  refine wp_obj 67 rfl (by decide) ol_RX4_1 obj_i obj_c (by decide) (by omega) rfl dX4_init_1 ?_
  refine wp_aload_n dX4_init_4 rfl rfl ?_
  refine wp_bipush dX4_init_5 (by decide) (by decide) ?_
  refine wp_newa (t := 0) (a := 0) (b := 0) (c := 10) (N := 40) rfl (Or.inl ⟨rfl, rfl⟩) rfl (by decide) (by decide) arc_int dX4_init_7 ?_
  change Wp _ _ _ 0 0 68 _ _ ((2, 68) :: _) _ _ _
  refine wp_putFa 67 rfl fl_RX4_9 rfl ⟨by omega, by omega⟩ dX4_init_9 rfl (Or.inr ⟨_, rfl⟩) rfl rfl rfl (by omega) ?_
  refine wp_aload_n dX4_init_12 rfl rfl ?_
  refine wp_iconst dX4_init_13 (by decide) ?_
  refine wp_puti 67 rfl fl_RX4_13 rfl ⟨by omega, by omega⟩ dX4_init_14 rfl rfl ?_
  refine wp_vret rfl dX4_init_17 ?_
  change Wp _ _ _ 0 0 68 _ 148 [(2, 67), (0, 3), (2, 60)] _ _ _
  refine wp_aast 60 rfl 67 rfl (t := 3) rfl rfl (by decide) ⟨by omega, by omega⟩ ⟨by omega, by omega⟩ ⟨by omega, by omega⟩ dX7_init_148 ?_
  refine wp_iinc (loc' := [(2, 1), (0, 4)]) dX7_init_149 rfl (by omega) rfl ?_
  refine wp_goto (tgt := 131) dX7_init_152 (by decide) ?_
  refine wp_iload_n dX7_init_131 rfl rfl ?_
  refine wp_iconst dX7_init_132 (by decide) ?_
  refine wp_icmp_ge (tgt := 155) dX7_init_133 (by decide) (fun _ => ?_) (fun h => absurd h (by decide))
  refine wp_vret rfl dX7_init_155 ?_
  have e0 : ∀ i j, ¬ Vly i j → ¬ VE 27 i j → M2 i j = ini0 i j := fun i j a b => (f2 i j b).trans (F1 i j a)
  have F3 : Fr (fun i j => (i = 25 ∧ j = 1) ∨ (60 ≤ i ∧ i < 69)) M2 (mu (mu (mu (mu (mu (mu (mu (mu (mu (mu (mu (mu (mu M2 25 1 1) 61 0 62) 61 1 (-1)) 60 0 61) 63 0 64) 63 1 (-1)) 60 1 63) 65 0 66) 65 1 (-1)) 60 2 65) 67 0 68) 67 1 (-1)) 60 3 67) := by
    refine Fr.put ?_ (by decide)
    refine Fr.put ?_ (by decide)
    refine Fr.put ?_ (by decide)
    refine Fr.put ?_ (by decide)
    refine Fr.put ?_ (by decide)
    refine Fr.put ?_ (by decide)
    refine Fr.put ?_ (by decide)
    refine Fr.put ?_ (by decide)
    refine Fr.put ?_ (by decide)
    refine Fr.put ?_ (by decide)
    refine Fr.put ?_ (by decide)
    refine Fr.put ?_ (by decide)
    refine Fr.put ?_ (by decide)
    exact Fr.rf
  refine k _ ⟨R2.frL F3 (by decide +kernel), ⟨rfl, rfl, rfl, rfl, rfl, rfl, rfl, rfl⟩, fun i j hi => ?_, rfl, ⟨q, eq, t2.frm (fun i j h1 h2 _ => F3 i j (by omega))⟩, z2, ⟨?_, ?_, ?_, ?_⟩, ?_, ?_, fun c => ?_, fun s hs => ?_⟩
  · exact (F3 i j (by omega)).trans ((e0 i j (by unfold Vly; omega) (by unfold VE; omega)).trans (ini0_fr i j (by show ¬ i < 69; omega)))
  · exact (e0 2 0 (by unfold Vly; omega) (by unfold VE; omega)).trans rfl
  · exact (e0 2 1 (by unfold Vly; omega) (by unfold VE; omega)).trans rfl
  · exact (e0 2 2 (by unfold Vly; omega) (by unfold VE; omega)).trans rfl
  · exact (e0 2 3 (by unfold Vly; omega) (by unfold VE; omega)).trans rfl
  · exact (e0 1 3 (by unfold Vly; omega) (by unfold VE; omega)).trans rfl
  · exact (e0 52 5 (by unfold Vly; omega) (by unfold VE; omega)).trans rfl
  · exact (e0 55 c (by unfold Vly; omega) (by unfold VE; omega)).trans rfl
  · match s, hs with
    | 0, _ => exact ⟨rfl, (e0 61 2 (by unfold Vly; omega) (by unfold VE; omega)).trans rfl⟩
    | 1, _ => exact ⟨rfl, (e0 63 2 (by unfold Vly; omega) (by unfold VE; omega)).trans rfl⟩
    | 2, _ => exact ⟨rfl, (e0 65 2 (by unfold Vly; omega) (by unfold VE; omega)).trans rfl⟩
    | 3, _ => exact ⟨rfl, (e0 67 2 (by unfold Vly; omega) (by unfold VE; omega)).trans rfl⟩
