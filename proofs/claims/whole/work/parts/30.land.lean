/-! ===== Land ===== -/
set_option maxRecDepth 20000 in
set_option maxHeartbeats 4000000 in
theorem sp_has_2 {l : Launch} {g : Gw} {d n : Nat} {M : Mm} {Q : Option Wd → Mm → Prop} (hn : 60 ≤ n) (x : Int) (kt : 0 ≤ x ∧ x < M 2 2 ∧ x < 5 → Q (some (0, 1)) M) (kf : ¬ (0 ≤ x ∧ x < M 2 2 ∧ x < 5) → Q (some (0, 0)) M) : Wp l g d 0 0 n m_X0_has 0 [] [(2, 2), (0, x)] M Q := by
  refine wp_iload_n dX0_has_0 rfl rfl ?_
  refine wp_if_lt (tgt := 21) dX0_has_1 (by decide) (fun h1 => ?_) (fun h1 => ?_)
  · refine wp_iconst dX0_has_21 (by decide) ?_
    refine wp_zret rfl (by omega) dX0_has_22 ?_
    exact kf (by omega)
  · refine wp_iload_n dX0_has_4 rfl rfl ?_
    refine wp_aload_n dX0_has_5 rfl rfl ?_
    refine wp_get 2 rfl fl_RX0_30 rfl ⟨by omega, by omega⟩ dX0_has_6 rfl (v := (M 2 2)) (rfl) ?_
    refine wp_icmp_ge (tgt := 21) dX0_has_9 (by decide) (fun h9 => ?_) (fun h9 => ?_)
    · refine wp_iconst dX0_has_21 (by decide) ?_
      refine wp_zret rfl (by omega) dX0_has_22 ?_
      exact kf (by omega)
    · refine wp_iload_n dX0_has_12 rfl rfl ?_
      refine wp_iconst dX0_has_13 (by decide) ?_
      refine wp_icmp_ge (tgt := 21) dX0_has_14 (by decide) (fun h14 => ?_) (fun h14 => ?_)
      · refine wp_iconst dX0_has_21 (by decide) ?_
        refine wp_zret rfl (by omega) dX0_has_22 ?_
        exact kf (by omega)
      · refine wp_iconst dX0_has_17 (by decide) ?_
        refine wp_goto (tgt := 22) dX0_has_18 (by decide) ?_
        refine wp_zret rfl (by omega) dX0_has_22 ?_
        exact kt (by omega)
set_option maxRecDepth 20000 in
set_option maxHeartbeats 4000000 in
theorem sp_has_16 {l : Launch} {g : Gw} {d n : Nat} {M : Mm} {Q : Option Wd → Mm → Prop} (hn : 60 ≤ n) (x : Int) (kt : 0 ≤ x ∧ x < M 16 2 ∧ x < 5 → Q (some (0, 1)) M) (kf : ¬ (0 ≤ x ∧ x < M 16 2 ∧ x < 5) → Q (some (0, 0)) M) : Wp l g d 0 0 n m_X0_has 0 [] [(2, 16), (0, x)] M Q := by
  refine wp_iload_n dX0_has_0 rfl rfl ?_
  refine wp_if_lt (tgt := 21) dX0_has_1 (by decide) (fun h1 => ?_) (fun h1 => ?_)
  · refine wp_iconst dX0_has_21 (by decide) ?_
    refine wp_zret rfl (by omega) dX0_has_22 ?_
    exact kf (by omega)
  · refine wp_iload_n dX0_has_4 rfl rfl ?_
    refine wp_aload_n dX0_has_5 rfl rfl ?_
    refine wp_get 16 rfl fl_RX0_30 rfl ⟨by omega, by omega⟩ dX0_has_6 rfl (v := (M 16 2)) (rfl) ?_
    refine wp_icmp_ge (tgt := 21) dX0_has_9 (by decide) (fun h9 => ?_) (fun h9 => ?_)
    · refine wp_iconst dX0_has_21 (by decide) ?_
      refine wp_zret rfl (by omega) dX0_has_22 ?_
      exact kf (by omega)
    · refine wp_iload_n dX0_has_12 rfl rfl ?_
      refine wp_iconst dX0_has_13 (by decide) ?_
      refine wp_icmp_ge (tgt := 21) dX0_has_14 (by decide) (fun h14 => ?_) (fun h14 => ?_)
      · refine wp_iconst dX0_has_21 (by decide) ?_
        refine wp_zret rfl (by omega) dX0_has_22 ?_
        exact kf (by omega)
      · refine wp_iconst dX0_has_17 (by decide) ?_
        refine wp_goto (tgt := 22) dX0_has_18 (by decide) ?_
        refine wp_zret rfl (by omega) dX0_has_22 ?_
        exact kt (by omega)
set_option maxRecDepth 20000 in
set_option maxHeartbeats 4000000 in
theorem sp_at_2 {l : Launch} {g : Gw} {d n : Nat} {M : Mm} {Q : Option Wd → Mm → Prop} (hn : 60 ≤ n) (hR : SR M) (x : Int) (k1 : 0 ≤ x ∧ x < M 2 3 ∧ x < 5 → Q (some (0, M 8 x.toNat)) M) (k2 : ¬ (0 ≤ x ∧ x < M 2 3 ∧ x < 5) → Q (some (0, -1)) M) : Wp l g d 0 0 n m_X0_at 0 [] [(2, 2), (0, x)] M Q := by
  refine wp_iload_n dX0_at_0 rfl rfl ?_
  refine wp_if_lt (tgt := 26) dX0_at_1 (by decide) (fun h1 => ?_) (fun h1 => ?_)
  · refine wp_iconst dX0_at_26 (by decide) ?_
    refine wp_iret rfl dX0_at_27 ?_
    exact k2 (by omega)
  · refine wp_iload_n dX0_at_4 rfl rfl ?_
    refine wp_aload_n dX0_at_5 rfl rfl ?_
    refine wp_get 2 rfl fl_RX0_40 rfl ⟨by omega, by omega⟩ dX0_at_6 rfl (v := (M 2 3)) (rfl) ?_
    refine wp_icmp_ge (tgt := 26) dX0_at_9 (by decide) (fun h9 => ?_) (fun h9 => ?_)
    · refine wp_iconst dX0_at_26 (by decide) ?_
      refine wp_iret rfl dX0_at_27 ?_
      exact k2 (by omega)
    · refine wp_iload_n dX0_at_12 rfl rfl ?_
      refine wp_iconst dX0_at_13 (by decide) ?_
      refine wp_icmp_ge (tgt := 26) dX0_at_14 (by decide) (fun h14 => ?_) (fun h14 => ?_)
      · refine wp_iconst dX0_at_26 (by decide) ?_
        refine wp_iret rfl dX0_at_27 ?_
        exact k2 (by omega)
      · refine wp_aload_n dX0_at_17 rfl rfl ?_
        refine wp_get 2 rfl fl_RX0_27 rfl ⟨by omega, by omega⟩ dX0_at_18 rfl (v := 8) (sr_2_9 (M := M) hR) ?_
        refine wp_iload_n dX0_at_21 rfl rfl ?_
        refine wp_iald 8 rfl rfl ⟨by omega, by omega⟩ ⟨by omega, by omega⟩ dX0_at_22 (v := (M 8 (x).toNat)) (rfl) ?_
        refine wp_goto (tgt := 27) dX0_at_23 (by decide) ?_
        refine wp_iret rfl dX0_at_27 ?_
        exact k1 (by omega)
set_option maxRecDepth 20000 in
set_option maxHeartbeats 4000000 in
theorem sp_at_16 {l : Launch} {g : Gw} {d n : Nat} {M : Mm} {Q : Option Wd → Mm → Prop} (hn : 60 ≤ n) (hR : SR M) (x : Int) (k1 : 0 ≤ x ∧ x < M 16 3 ∧ x < 5 → Q (some (0, M 22 x.toNat)) M) (k2 : ¬ (0 ≤ x ∧ x < M 16 3 ∧ x < 5) → Q (some (0, -1)) M) : Wp l g d 0 0 n m_X0_at 0 [] [(2, 16), (0, x)] M Q := by
  refine wp_iload_n dX0_at_0 rfl rfl ?_
  refine wp_if_lt (tgt := 26) dX0_at_1 (by decide) (fun h1 => ?_) (fun h1 => ?_)
  · refine wp_iconst dX0_at_26 (by decide) ?_
    refine wp_iret rfl dX0_at_27 ?_
    exact k2 (by omega)
  · refine wp_iload_n dX0_at_4 rfl rfl ?_
    refine wp_aload_n dX0_at_5 rfl rfl ?_
    refine wp_get 16 rfl fl_RX0_40 rfl ⟨by omega, by omega⟩ dX0_at_6 rfl (v := (M 16 3)) (rfl) ?_
    refine wp_icmp_ge (tgt := 26) dX0_at_9 (by decide) (fun h9 => ?_) (fun h9 => ?_)
    · refine wp_iconst dX0_at_26 (by decide) ?_
      refine wp_iret rfl dX0_at_27 ?_
      exact k2 (by omega)
    · refine wp_iload_n dX0_at_12 rfl rfl ?_
      refine wp_iconst dX0_at_13 (by decide) ?_
      refine wp_icmp_ge (tgt := 26) dX0_at_14 (by decide) (fun h14 => ?_) (fun h14 => ?_)
      · refine wp_iconst dX0_at_26 (by decide) ?_
        refine wp_iret rfl dX0_at_27 ?_
        exact k2 (by omega)
      · refine wp_aload_n dX0_at_17 rfl rfl ?_
        refine wp_get 16 rfl fl_RX0_27 rfl ⟨by omega, by omega⟩ dX0_at_18 rfl (v := 22) (sr_16_9 (M := M) hR) ?_
        refine wp_iload_n dX0_at_21 rfl rfl ?_
        refine wp_iald 22 rfl rfl ⟨by omega, by omega⟩ ⟨by omega, by omega⟩ dX0_at_22 (v := (M 22 (x).toNat)) (rfl) ?_
        refine wp_goto (tgt := 27) dX0_at_23 (by decide) ?_
        refine wp_iret rfl dX0_at_27 ?_
        exact k1 (by omega)
set_option maxRecDepth 20000 in
set_option maxHeartbeats 4000000 in
theorem sp_of_kind_2 {l : Launch} {g : Gw} {d n : Nat} {M : Mm} {Q : Option Wd → Mm → Prop} (hn : 60 ≤ n) (hR : SR M) (x : Int) (hx : 0 ≤ x ∧ x < M 2 2 ∧ x < 5) (k : Q (some (0, M 3 x.toNat)) M) : Wp l g d 0 0 n m_X0_of 0 [] [(2, 2), (2, 3), (0, x)] M Q := by
  refine wp_aload_n dX0_of_0 rfl rfl ?_
  refine wp_ifnull (tgt := 28) dX0_of_1 (by decide) (fun h => absurd h (by decide)) (fun _ => ?_)
  refine wp_iload_n dX0_of_4 rfl rfl ?_
  refine wp_if_lt (tgt := 28) dX0_of_5 (by decide) (fun h => absurd h (by omega)) (fun _ => ?_)
  refine wp_iload_n dX0_of_8 rfl rfl ?_
  refine wp_aload_n dX0_of_9 rfl rfl ?_
  refine wp_get 2 rfl fl_RX0_30 rfl ⟨by omega, by omega⟩ dX0_of_10 rfl (v := (M 2 2)) (rfl) ?_
  refine wp_icmp_ge (tgt := 28) dX0_of_13 (by decide) (fun h => absurd h (by omega)) (fun _ => ?_)
  refine wp_iload_n dX0_of_16 rfl rfl ?_
  refine wp_aload_n dX0_of_17 rfl rfl ?_
  refine wp_alen 3 rfl rfl (by decide) (by decide) ⟨by omega, by omega⟩ dX0_of_18 ?_
  refine wp_icmp_ge (tgt := 28) dX0_of_19 (by decide) (fun h => absurd h (by omega)) (fun _ => ?_)
  refine wp_aload_n dX0_of_22 rfl rfl ?_
  refine wp_iload_n dX0_of_23 rfl rfl ?_
  refine wp_iald 3 rfl rfl ⟨by omega, by omega⟩ ⟨by omega, by omega⟩ dX0_of_24 (v := (M 3 (x).toNat)) (rfl) ?_
  refine wp_goto (tgt := 29) dX0_of_25 (by decide) ?_
  refine wp_iret rfl dX0_of_29 ?_
  exact k
set_option maxRecDepth 20000 in
set_option maxHeartbeats 4000000 in
theorem sp_of_kind_16 {l : Launch} {g : Gw} {d n : Nat} {M : Mm} {Q : Option Wd → Mm → Prop} (hn : 60 ≤ n) (hR : SR M) (x : Int) (hx : 0 ≤ x ∧ x < M 16 2 ∧ x < 5) (k : Q (some (0, M 17 x.toNat)) M) : Wp l g d 0 0 n m_X0_of 0 [] [(2, 16), (2, 17), (0, x)] M Q := by
  refine wp_aload_n dX0_of_0 rfl rfl ?_
  refine wp_ifnull (tgt := 28) dX0_of_1 (by decide) (fun h => absurd h (by decide)) (fun _ => ?_)
  refine wp_iload_n dX0_of_4 rfl rfl ?_
  refine wp_if_lt (tgt := 28) dX0_of_5 (by decide) (fun h => absurd h (by omega)) (fun _ => ?_)
  refine wp_iload_n dX0_of_8 rfl rfl ?_
  refine wp_aload_n dX0_of_9 rfl rfl ?_
  refine wp_get 16 rfl fl_RX0_30 rfl ⟨by omega, by omega⟩ dX0_of_10 rfl (v := (M 16 2)) (rfl) ?_
  refine wp_icmp_ge (tgt := 28) dX0_of_13 (by decide) (fun h => absurd h (by omega)) (fun _ => ?_)
  refine wp_iload_n dX0_of_16 rfl rfl ?_
  refine wp_aload_n dX0_of_17 rfl rfl ?_
  refine wp_alen 17 rfl rfl (by decide) (by decide) ⟨by omega, by omega⟩ dX0_of_18 ?_
  refine wp_icmp_ge (tgt := 28) dX0_of_19 (by decide) (fun h => absurd h (by omega)) (fun _ => ?_)
  refine wp_aload_n dX0_of_22 rfl rfl ?_
  refine wp_iload_n dX0_of_23 rfl rfl ?_
  refine wp_iald 17 rfl rfl ⟨by omega, by omega⟩ ⟨by omega, by omega⟩ dX0_of_24 (v := (M 17 (x).toNat)) (rfl) ?_
  refine wp_goto (tgt := 29) dX0_of_25 (by decide) ?_
  refine wp_iret rfl dX0_of_29 ?_
  exact k
set_option maxRecDepth 20000 in
set_option maxHeartbeats 4000000 in
theorem sp_of_number_2 {l : Launch} {g : Gw} {d n : Nat} {M : Mm} {Q : Option Wd → Mm → Prop} (hn : 60 ≤ n) (hR : SR M) (x : Int) (hx : 0 ≤ x ∧ x < M 2 2 ∧ x < 5) (k : Q (some (0, M 4 x.toNat)) M) : Wp l g d 0 0 n m_X0_of 0 [] [(2, 2), (2, 4), (0, x)] M Q := by
  refine wp_aload_n dX0_of_0 rfl rfl ?_
  refine wp_ifnull (tgt := 28) dX0_of_1 (by decide) (fun h => absurd h (by decide)) (fun _ => ?_)
  refine wp_iload_n dX0_of_4 rfl rfl ?_
  refine wp_if_lt (tgt := 28) dX0_of_5 (by decide) (fun h => absurd h (by omega)) (fun _ => ?_)
  refine wp_iload_n dX0_of_8 rfl rfl ?_
  refine wp_aload_n dX0_of_9 rfl rfl ?_
  refine wp_get 2 rfl fl_RX0_30 rfl ⟨by omega, by omega⟩ dX0_of_10 rfl (v := (M 2 2)) (rfl) ?_
  refine wp_icmp_ge (tgt := 28) dX0_of_13 (by decide) (fun h => absurd h (by omega)) (fun _ => ?_)
  refine wp_iload_n dX0_of_16 rfl rfl ?_
  refine wp_aload_n dX0_of_17 rfl rfl ?_
  refine wp_alen 4 rfl rfl (by decide) (by decide) ⟨by omega, by omega⟩ dX0_of_18 ?_
  refine wp_icmp_ge (tgt := 28) dX0_of_19 (by decide) (fun h => absurd h (by omega)) (fun _ => ?_)
  refine wp_aload_n dX0_of_22 rfl rfl ?_
  refine wp_iload_n dX0_of_23 rfl rfl ?_
  refine wp_iald 4 rfl rfl ⟨by omega, by omega⟩ ⟨by omega, by omega⟩ dX0_of_24 (v := (M 4 (x).toNat)) (rfl) ?_
  refine wp_goto (tgt := 29) dX0_of_25 (by decide) ?_
  refine wp_iret rfl dX0_of_29 ?_
  exact k
set_option maxRecDepth 20000 in
set_option maxHeartbeats 4000000 in
theorem sp_of_number_16 {l : Launch} {g : Gw} {d n : Nat} {M : Mm} {Q : Option Wd → Mm → Prop} (hn : 60 ≤ n) (hR : SR M) (x : Int) (hx : 0 ≤ x ∧ x < M 16 2 ∧ x < 5) (k : Q (some (0, M 18 x.toNat)) M) : Wp l g d 0 0 n m_X0_of 0 [] [(2, 16), (2, 18), (0, x)] M Q := by
  refine wp_aload_n dX0_of_0 rfl rfl ?_
  refine wp_ifnull (tgt := 28) dX0_of_1 (by decide) (fun h => absurd h (by decide)) (fun _ => ?_)
  refine wp_iload_n dX0_of_4 rfl rfl ?_
  refine wp_if_lt (tgt := 28) dX0_of_5 (by decide) (fun h => absurd h (by omega)) (fun _ => ?_)
  refine wp_iload_n dX0_of_8 rfl rfl ?_
  refine wp_aload_n dX0_of_9 rfl rfl ?_
  refine wp_get 16 rfl fl_RX0_30 rfl ⟨by omega, by omega⟩ dX0_of_10 rfl (v := (M 16 2)) (rfl) ?_
  refine wp_icmp_ge (tgt := 28) dX0_of_13 (by decide) (fun h => absurd h (by omega)) (fun _ => ?_)
  refine wp_iload_n dX0_of_16 rfl rfl ?_
  refine wp_aload_n dX0_of_17 rfl rfl ?_
  refine wp_alen 18 rfl rfl (by decide) (by decide) ⟨by omega, by omega⟩ dX0_of_18 ?_
  refine wp_icmp_ge (tgt := 28) dX0_of_19 (by decide) (fun h => absurd h (by omega)) (fun _ => ?_)
  refine wp_aload_n dX0_of_22 rfl rfl ?_
  refine wp_iload_n dX0_of_23 rfl rfl ?_
  refine wp_iald 18 rfl rfl ⟨by omega, by omega⟩ ⟨by omega, by omega⟩ dX0_of_24 (v := (M 18 (x).toNat)) (rfl) ?_
  refine wp_goto (tgt := 29) dX0_of_25 (by decide) ?_
  refine wp_iret rfl dX0_of_29 ?_
  exact k
set_option maxRecDepth 20000 in
set_option maxHeartbeats 4000000 in
theorem sp_of_likes_2 {l : Launch} {g : Gw} {d n : Nat} {M : Mm} {Q : Option Wd → Mm → Prop} (hn : 60 ≤ n) (hR : SR M) (x : Int) (hx : 0 ≤ x ∧ x < M 2 2 ∧ x < 5) (k : Q (some (0, M 5 x.toNat)) M) : Wp l g d 0 0 n m_X0_of 0 [] [(2, 2), (2, 5), (0, x)] M Q := by
  refine wp_aload_n dX0_of_0 rfl rfl ?_
  refine wp_ifnull (tgt := 28) dX0_of_1 (by decide) (fun h => absurd h (by decide)) (fun _ => ?_)
  refine wp_iload_n dX0_of_4 rfl rfl ?_
  refine wp_if_lt (tgt := 28) dX0_of_5 (by decide) (fun h => absurd h (by omega)) (fun _ => ?_)
  refine wp_iload_n dX0_of_8 rfl rfl ?_
  refine wp_aload_n dX0_of_9 rfl rfl ?_
  refine wp_get 2 rfl fl_RX0_30 rfl ⟨by omega, by omega⟩ dX0_of_10 rfl (v := (M 2 2)) (rfl) ?_
  refine wp_icmp_ge (tgt := 28) dX0_of_13 (by decide) (fun h => absurd h (by omega)) (fun _ => ?_)
  refine wp_iload_n dX0_of_16 rfl rfl ?_
  refine wp_aload_n dX0_of_17 rfl rfl ?_
  refine wp_alen 5 rfl rfl (by decide) (by decide) ⟨by omega, by omega⟩ dX0_of_18 ?_
  refine wp_icmp_ge (tgt := 28) dX0_of_19 (by decide) (fun h => absurd h (by omega)) (fun _ => ?_)
  refine wp_aload_n dX0_of_22 rfl rfl ?_
  refine wp_iload_n dX0_of_23 rfl rfl ?_
  refine wp_iald 5 rfl rfl ⟨by omega, by omega⟩ ⟨by omega, by omega⟩ dX0_of_24 (v := (M 5 (x).toNat)) (rfl) ?_
  refine wp_goto (tgt := 29) dX0_of_25 (by decide) ?_
  refine wp_iret rfl dX0_of_29 ?_
  exact k
set_option maxRecDepth 20000 in
set_option maxHeartbeats 4000000 in
theorem sp_of_likes_16 {l : Launch} {g : Gw} {d n : Nat} {M : Mm} {Q : Option Wd → Mm → Prop} (hn : 60 ≤ n) (hR : SR M) (x : Int) (hx : 0 ≤ x ∧ x < M 16 2 ∧ x < 5) (k : Q (some (0, M 19 x.toNat)) M) : Wp l g d 0 0 n m_X0_of 0 [] [(2, 16), (2, 19), (0, x)] M Q := by
  refine wp_aload_n dX0_of_0 rfl rfl ?_
  refine wp_ifnull (tgt := 28) dX0_of_1 (by decide) (fun h => absurd h (by decide)) (fun _ => ?_)
  refine wp_iload_n dX0_of_4 rfl rfl ?_
  refine wp_if_lt (tgt := 28) dX0_of_5 (by decide) (fun h => absurd h (by omega)) (fun _ => ?_)
  refine wp_iload_n dX0_of_8 rfl rfl ?_
  refine wp_aload_n dX0_of_9 rfl rfl ?_
  refine wp_get 16 rfl fl_RX0_30 rfl ⟨by omega, by omega⟩ dX0_of_10 rfl (v := (M 16 2)) (rfl) ?_
  refine wp_icmp_ge (tgt := 28) dX0_of_13 (by decide) (fun h => absurd h (by omega)) (fun _ => ?_)
  refine wp_iload_n dX0_of_16 rfl rfl ?_
  refine wp_aload_n dX0_of_17 rfl rfl ?_
  refine wp_alen 19 rfl rfl (by decide) (by decide) ⟨by omega, by omega⟩ dX0_of_18 ?_
  refine wp_icmp_ge (tgt := 28) dX0_of_19 (by decide) (fun h => absurd h (by omega)) (fun _ => ?_)
  refine wp_aload_n dX0_of_22 rfl rfl ?_
  refine wp_iload_n dX0_of_23 rfl rfl ?_
  refine wp_iald 19 rfl rfl ⟨by omega, by omega⟩ ⟨by omega, by omega⟩ dX0_of_24 (v := (M 19 (x).toNat)) (rfl) ?_
  refine wp_goto (tgt := 29) dX0_of_25 (by decide) ?_
  refine wp_iret rfl dX0_of_29 ?_
  exact k
set_option maxRecDepth 20000 in
set_option maxHeartbeats 4000000 in
theorem sp_of_gifts_2 {l : Launch} {g : Gw} {d n : Nat} {M : Mm} {Q : Option Wd → Mm → Prop} (hn : 60 ≤ n) (hR : SR M) (x : Int) (hx : 0 ≤ x ∧ x < M 2 2 ∧ x < 5) (k : Q (some (0, M 6 x.toNat)) M) : Wp l g d 0 0 n m_X0_of 0 [] [(2, 2), (2, 6), (0, x)] M Q := by
  refine wp_aload_n dX0_of_0 rfl rfl ?_
  refine wp_ifnull (tgt := 28) dX0_of_1 (by decide) (fun h => absurd h (by decide)) (fun _ => ?_)
  refine wp_iload_n dX0_of_4 rfl rfl ?_
  refine wp_if_lt (tgt := 28) dX0_of_5 (by decide) (fun h => absurd h (by omega)) (fun _ => ?_)
  refine wp_iload_n dX0_of_8 rfl rfl ?_
  refine wp_aload_n dX0_of_9 rfl rfl ?_
  refine wp_get 2 rfl fl_RX0_30 rfl ⟨by omega, by omega⟩ dX0_of_10 rfl (v := (M 2 2)) (rfl) ?_
  refine wp_icmp_ge (tgt := 28) dX0_of_13 (by decide) (fun h => absurd h (by omega)) (fun _ => ?_)
  refine wp_iload_n dX0_of_16 rfl rfl ?_
  refine wp_aload_n dX0_of_17 rfl rfl ?_
  refine wp_alen 6 rfl rfl (by decide) (by decide) ⟨by omega, by omega⟩ dX0_of_18 ?_
  refine wp_icmp_ge (tgt := 28) dX0_of_19 (by decide) (fun h => absurd h (by omega)) (fun _ => ?_)
  refine wp_aload_n dX0_of_22 rfl rfl ?_
  refine wp_iload_n dX0_of_23 rfl rfl ?_
  refine wp_iald 6 rfl rfl ⟨by omega, by omega⟩ ⟨by omega, by omega⟩ dX0_of_24 (v := (M 6 (x).toNat)) (rfl) ?_
  refine wp_goto (tgt := 29) dX0_of_25 (by decide) ?_
  refine wp_iret rfl dX0_of_29 ?_
  exact k
set_option maxRecDepth 20000 in
set_option maxHeartbeats 4000000 in
theorem sp_of_gifts_16 {l : Launch} {g : Gw} {d n : Nat} {M : Mm} {Q : Option Wd → Mm → Prop} (hn : 60 ≤ n) (hR : SR M) (x : Int) (hx : 0 ≤ x ∧ x < M 16 2 ∧ x < 5) (k : Q (some (0, M 20 x.toNat)) M) : Wp l g d 0 0 n m_X0_of 0 [] [(2, 16), (2, 20), (0, x)] M Q := by
  refine wp_aload_n dX0_of_0 rfl rfl ?_
  refine wp_ifnull (tgt := 28) dX0_of_1 (by decide) (fun h => absurd h (by decide)) (fun _ => ?_)
  refine wp_iload_n dX0_of_4 rfl rfl ?_
  refine wp_if_lt (tgt := 28) dX0_of_5 (by decide) (fun h => absurd h (by omega)) (fun _ => ?_)
  refine wp_iload_n dX0_of_8 rfl rfl ?_
  refine wp_aload_n dX0_of_9 rfl rfl ?_
  refine wp_get 16 rfl fl_RX0_30 rfl ⟨by omega, by omega⟩ dX0_of_10 rfl (v := (M 16 2)) (rfl) ?_
  refine wp_icmp_ge (tgt := 28) dX0_of_13 (by decide) (fun h => absurd h (by omega)) (fun _ => ?_)
  refine wp_iload_n dX0_of_16 rfl rfl ?_
  refine wp_aload_n dX0_of_17 rfl rfl ?_
  refine wp_alen 20 rfl rfl (by decide) (by decide) ⟨by omega, by omega⟩ dX0_of_18 ?_
  refine wp_icmp_ge (tgt := 28) dX0_of_19 (by decide) (fun h => absurd h (by omega)) (fun _ => ?_)
  refine wp_aload_n dX0_of_22 rfl rfl ?_
  refine wp_iload_n dX0_of_23 rfl rfl ?_
  refine wp_iald 20 rfl rfl ⟨by omega, by omega⟩ ⟨by omega, by omega⟩ dX0_of_24 (v := (M 20 (x).toNat)) (rfl) ?_
  refine wp_goto (tgt := 29) dX0_of_25 (by decide) ?_
  refine wp_iret rfl dX0_of_29 ?_
  exact k
set_option maxRecDepth 20000 in
set_option maxHeartbeats 4000000 in
theorem sp_of_served_2 {l : Launch} {g : Gw} {d n : Nat} {M : Mm} {Q : Option Wd → Mm → Prop} (hn : 60 ≤ n) (hR : SR M) (x : Int) (hx : 0 ≤ x ∧ x < M 2 2 ∧ x < 5) (k : Q (some (0, M 7 x.toNat)) M) : Wp l g d 0 0 n m_X0_of 0 [] [(2, 2), (2, 7), (0, x)] M Q := by
  refine wp_aload_n dX0_of_0 rfl rfl ?_
  refine wp_ifnull (tgt := 28) dX0_of_1 (by decide) (fun h => absurd h (by decide)) (fun _ => ?_)
  refine wp_iload_n dX0_of_4 rfl rfl ?_
  refine wp_if_lt (tgt := 28) dX0_of_5 (by decide) (fun h => absurd h (by omega)) (fun _ => ?_)
  refine wp_iload_n dX0_of_8 rfl rfl ?_
  refine wp_aload_n dX0_of_9 rfl rfl ?_
  refine wp_get 2 rfl fl_RX0_30 rfl ⟨by omega, by omega⟩ dX0_of_10 rfl (v := (M 2 2)) (rfl) ?_
  refine wp_icmp_ge (tgt := 28) dX0_of_13 (by decide) (fun h => absurd h (by omega)) (fun _ => ?_)
  refine wp_iload_n dX0_of_16 rfl rfl ?_
  refine wp_aload_n dX0_of_17 rfl rfl ?_
  refine wp_alen 7 rfl rfl (by decide) (by decide) ⟨by omega, by omega⟩ dX0_of_18 ?_
  refine wp_icmp_ge (tgt := 28) dX0_of_19 (by decide) (fun h => absurd h (by omega)) (fun _ => ?_)
  refine wp_aload_n dX0_of_22 rfl rfl ?_
  refine wp_iload_n dX0_of_23 rfl rfl ?_
  refine wp_iald 7 rfl rfl ⟨by omega, by omega⟩ ⟨by omega, by omega⟩ dX0_of_24 (v := (M 7 (x).toNat)) (rfl) ?_
  refine wp_goto (tgt := 29) dX0_of_25 (by decide) ?_
  refine wp_iret rfl dX0_of_29 ?_
  exact k
set_option maxRecDepth 20000 in
set_option maxHeartbeats 4000000 in
theorem sp_of_served_16 {l : Launch} {g : Gw} {d n : Nat} {M : Mm} {Q : Option Wd → Mm → Prop} (hn : 60 ≤ n) (hR : SR M) (x : Int) (hx : 0 ≤ x ∧ x < M 16 2 ∧ x < 5) (k : Q (some (0, M 21 x.toNat)) M) : Wp l g d 0 0 n m_X0_of 0 [] [(2, 16), (2, 21), (0, x)] M Q := by
  refine wp_aload_n dX0_of_0 rfl rfl ?_
  refine wp_ifnull (tgt := 28) dX0_of_1 (by decide) (fun h => absurd h (by decide)) (fun _ => ?_)
  refine wp_iload_n dX0_of_4 rfl rfl ?_
  refine wp_if_lt (tgt := 28) dX0_of_5 (by decide) (fun h => absurd h (by omega)) (fun _ => ?_)
  refine wp_iload_n dX0_of_8 rfl rfl ?_
  refine wp_aload_n dX0_of_9 rfl rfl ?_
  refine wp_get 16 rfl fl_RX0_30 rfl ⟨by omega, by omega⟩ dX0_of_10 rfl (v := (M 16 2)) (rfl) ?_
  refine wp_icmp_ge (tgt := 28) dX0_of_13 (by decide) (fun h => absurd h (by omega)) (fun _ => ?_)
  refine wp_iload_n dX0_of_16 rfl rfl ?_
  refine wp_aload_n dX0_of_17 rfl rfl ?_
  refine wp_alen 21 rfl rfl (by decide) (by decide) ⟨by omega, by omega⟩ dX0_of_18 ?_
  refine wp_icmp_ge (tgt := 28) dX0_of_19 (by decide) (fun h => absurd h (by omega)) (fun _ => ?_)
  refine wp_aload_n dX0_of_22 rfl rfl ?_
  refine wp_iload_n dX0_of_23 rfl rfl ?_
  refine wp_iald 21 rfl rfl ⟨by omega, by omega⟩ ⟨by omega, by omega⟩ dX0_of_24 (v := (M 21 (x).toNat)) (rfl) ?_
  refine wp_goto (tgt := 29) dX0_of_25 (by decide) ?_
  refine wp_iret rfl dX0_of_29 ?_
  exact k
set_option maxRecDepth 20000 in
set_option maxHeartbeats 4000000 in
theorem lp_placeOf_2 {l : Launch} {g : Gw} {d n : Nat} {M : Mm} (hn : 60 ≤ n) (hR : SR M) (x : Int) (len : Nat) (hlen : M 2 3 = (len : Int)) (h5 : len ≤ 5) : ∀ (m p : Nat) (Q : Option Wd → Mm → Prop), p + m = len → Q (some (0, fst_ (M 8) x m p)) M → Wp l g d 0 0 n m_X0_placeOf 2 [] [(2, 2), (0, x), (0, (p : Int))] M Q := by
  intro m
  induction m with
  | zero =>
    intro p Q hp k
    refine wp_iload_n dX0_placeOf_2 rfl rfl ?_
    refine wp_aload_n dX0_placeOf_3 rfl rfl ?_
    refine wp_get 2 rfl fl_RX0_40 rfl ⟨by omega, by omega⟩ dX0_placeOf_4 rfl (v := (M 2 3)) (rfl) ?_
    refine wp_icmp_ge (tgt := 33) dX0_placeOf_7 (by decide) (fun _ => ?_) (fun h => absurd h (by omega))
    refine wp_iconst dX0_placeOf_33 (by decide) ?_
    refine wp_iret rfl dX0_placeOf_34 ?_
    exact k
  | succ m ih =>
    intro p Q hp k
    refine wp_iload_n dX0_placeOf_2 rfl rfl ?_
    refine wp_aload_n dX0_placeOf_3 rfl rfl ?_
    refine wp_get 2 rfl fl_RX0_40 rfl ⟨by omega, by omega⟩ dX0_placeOf_4 rfl (v := (M 2 3)) (rfl) ?_
    refine wp_icmp_ge (tgt := 33) dX0_placeOf_7 (by decide) (fun h => absurd h (by omega)) (fun _ => ?_)
    refine wp_iload_n dX0_placeOf_10 rfl rfl ?_
    refine wp_iconst dX0_placeOf_11 (by decide) ?_
    refine wp_icmp_ge (tgt := 33) dX0_placeOf_12 (by decide) (fun h => absurd h (by omega)) (fun _ => ?_)
    refine wp_aload_n dX0_placeOf_15 rfl rfl ?_
    refine wp_get 2 rfl fl_RX0_27 rfl ⟨by omega, by omega⟩ dX0_placeOf_16 rfl (v := 8) (sr_2_9 (M := M) hR) ?_
    refine wp_iload_n dX0_placeOf_19 rfl rfl ?_
    refine wp_iald 8 rfl rfl ⟨by omega, by omega⟩ ⟨by omega, by omega⟩ dX0_placeOf_20 (v := (M 8 p)) (rfl) ?_
    refine wp_iload_n dX0_placeOf_21 rfl rfl ?_
    refine wp_icmp_ne (tgt := 27) dX0_placeOf_22 (by decide) (fun h22 => ?_) (fun h22 => ?_)
    · refine wp_iinc (loc' := [(2, 2), (0, x), (0, ((p : Int) + 1))]) dX0_placeOf_27 rfl (by omega) rfl ?_
      refine wp_goto (tgt := 2) dX0_placeOf_30 (by decide) ?_
      unfold fst_ at k
      rw [if_neg h22] at k
      exact ih (p + 1) Q (by omega) k
    · refine wp_iload_n dX0_placeOf_25 rfl rfl ?_
      refine wp_iret rfl dX0_placeOf_26 ?_
      unfold fst_ at k
      rw [if_pos h22] at k
      exact k
set_option maxRecDepth 20000 in
set_option maxHeartbeats 4000000 in
theorem lp_placeOf_16 {l : Launch} {g : Gw} {d n : Nat} {M : Mm} (hn : 60 ≤ n) (hR : SR M) (x : Int) (len : Nat) (hlen : M 16 3 = (len : Int)) (h5 : len ≤ 5) : ∀ (m p : Nat) (Q : Option Wd → Mm → Prop), p + m = len → Q (some (0, fst_ (M 22) x m p)) M → Wp l g d 0 0 n m_X0_placeOf 2 [] [(2, 16), (0, x), (0, (p : Int))] M Q := by
  intro m
  induction m with
  | zero =>
    intro p Q hp k
    refine wp_iload_n dX0_placeOf_2 rfl rfl ?_
    refine wp_aload_n dX0_placeOf_3 rfl rfl ?_
    refine wp_get 16 rfl fl_RX0_40 rfl ⟨by omega, by omega⟩ dX0_placeOf_4 rfl (v := (M 16 3)) (rfl) ?_
    refine wp_icmp_ge (tgt := 33) dX0_placeOf_7 (by decide) (fun _ => ?_) (fun h => absurd h (by omega))
    refine wp_iconst dX0_placeOf_33 (by decide) ?_
    refine wp_iret rfl dX0_placeOf_34 ?_
    exact k
  | succ m ih =>
    intro p Q hp k
    refine wp_iload_n dX0_placeOf_2 rfl rfl ?_
    refine wp_aload_n dX0_placeOf_3 rfl rfl ?_
    refine wp_get 16 rfl fl_RX0_40 rfl ⟨by omega, by omega⟩ dX0_placeOf_4 rfl (v := (M 16 3)) (rfl) ?_
    refine wp_icmp_ge (tgt := 33) dX0_placeOf_7 (by decide) (fun h => absurd h (by omega)) (fun _ => ?_)
    refine wp_iload_n dX0_placeOf_10 rfl rfl ?_
    refine wp_iconst dX0_placeOf_11 (by decide) ?_
    refine wp_icmp_ge (tgt := 33) dX0_placeOf_12 (by decide) (fun h => absurd h (by omega)) (fun _ => ?_)
    refine wp_aload_n dX0_placeOf_15 rfl rfl ?_
    refine wp_get 16 rfl fl_RX0_27 rfl ⟨by omega, by omega⟩ dX0_placeOf_16 rfl (v := 22) (sr_16_9 (M := M) hR) ?_
    refine wp_iload_n dX0_placeOf_19 rfl rfl ?_
    refine wp_iald 22 rfl rfl ⟨by omega, by omega⟩ ⟨by omega, by omega⟩ dX0_placeOf_20 (v := (M 22 p)) (rfl) ?_
    refine wp_iload_n dX0_placeOf_21 rfl rfl ?_
    refine wp_icmp_ne (tgt := 27) dX0_placeOf_22 (by decide) (fun h22 => ?_) (fun h22 => ?_)
    · refine wp_iinc (loc' := [(2, 16), (0, x), (0, ((p : Int) + 1))]) dX0_placeOf_27 rfl (by omega) rfl ?_
      refine wp_goto (tgt := 2) dX0_placeOf_30 (by decide) ?_
      unfold fst_ at k
      rw [if_neg h22] at k
      exact ih (p + 1) Q (by omega) k
    · refine wp_iload_n dX0_placeOf_25 rfl rfl ?_
      refine wp_iret rfl dX0_placeOf_26 ?_
      unfold fst_ at k
      rw [if_pos h22] at k
      exact k
set_option maxRecDepth 20000 in
set_option maxHeartbeats 4000000 in
theorem sp_placeOf_2 {l : Launch} {g : Gw} {d n : Nat} {M : Mm} {Q : Option Wd → Mm → Prop} (hn : 60 ≤ n) (hR : SR M) (x : Int) (h0 : 0 ≤ M 2 3) (h5 : M 2 3 ≤ 5) (k : Q (some (0, fst_ (M 8) x (M 2 3).toNat 0)) M) : Wp l g d 0 0 n m_X0_placeOf 0 [] [(2, 2), (0, x), (9, 0)] M Q := by
  refine wp_iconst dX0_placeOf_0 (by decide) ?_
  refine wp_istore_n (loc' := [(2, 2), (0, x), (0, 0)]) dX0_placeOf_1 rfl (Nat.le_of_ble_eq_true rfl) rfl ?_
  exact lp_placeOf_2 hn hR x (M 2 3).toNat (by omega) (by omega) (M 2 3).toNat 0 Q (by omega) k
set_option maxRecDepth 20000 in
set_option maxHeartbeats 4000000 in
theorem sp_placeOf_16 {l : Launch} {g : Gw} {d n : Nat} {M : Mm} {Q : Option Wd → Mm → Prop} (hn : 60 ≤ n) (hR : SR M) (x : Int) (h0 : 0 ≤ M 16 3) (h5 : M 16 3 ≤ 5) (k : Q (some (0, fst_ (M 22) x (M 16 3).toNat 0)) M) : Wp l g d 0 0 n m_X0_placeOf 0 [] [(2, 16), (0, x), (9, 0)] M Q := by
  refine wp_iconst dX0_placeOf_0 (by decide) ?_
  refine wp_istore_n (loc' := [(2, 16), (0, x), (0, 0)]) dX0_placeOf_1 rfl (Nat.le_of_ble_eq_true rfl) rfl ?_
  exact lp_placeOf_16 hn hR x (M 16 3).toNat (by omega) (by omega) (M 16 3).toNat 0 Q (by omega) k
set_option maxRecDepth 20000 in
set_option maxHeartbeats 4000000 in
theorem lp_likersOf_2 {l : Launch} {g : Gw} {d n : Nat} {M : Mm} (hn : 60 ≤ n) (hR : SR M) (x : Int) (len : Nat) (hlen : M 2 2 = (len : Int)) (h5 : len ≤ 5) : ∀ (m p : Nat) (Q : Option Wd → Mm → Prop), p + m = len → Q (some (0, lkr (M 5) x len)) M → Wp l g d 0 0 n m_X0_likersOf 4 [] [(2, 2), (0, x), (0, lkr (M 5) x p), (0, (p : Int))] M Q := by
  intro m
  induction m with
  | zero =>
    intro p Q hp k
    refine wp_iload_n dX0_likersOf_4 rfl rfl ?_
    refine wp_aload_n dX0_likersOf_5 rfl rfl ?_
    refine wp_get 2 rfl fl_RX0_30 rfl ⟨by omega, by omega⟩ dX0_likersOf_6 rfl (v := (M 2 2)) (rfl) ?_
    refine wp_icmp_ge (tgt := 36) dX0_likersOf_9 (by decide) (fun _ => ?_) (fun h => absurd h (by omega))
    refine wp_iload_n dX0_likersOf_36 rfl rfl ?_
    refine wp_iret rfl dX0_likersOf_37 ?_
    have e : p = len := by omega
    subst e
    exact k
  | succ m ih =>
    intro p Q hp k
    refine wp_iload_n dX0_likersOf_4 rfl rfl ?_
    refine wp_aload_n dX0_likersOf_5 rfl rfl ?_
    refine wp_get 2 rfl fl_RX0_30 rfl ⟨by omega, by omega⟩ dX0_likersOf_6 rfl (v := (M 2 2)) (rfl) ?_
    refine wp_icmp_ge (tgt := 36) dX0_likersOf_9 (by decide) (fun h => absurd h (by omega)) (fun _ => ?_)
    refine wp_iload_n dX0_likersOf_12 rfl rfl ?_
    refine wp_iconst dX0_likersOf_13 (by decide) ?_
    refine wp_icmp_ge (tgt := 36) dX0_likersOf_14 (by decide) (fun h => absurd h (by omega)) (fun _ => ?_)
    refine wp_iload_n dX0_likersOf_17 rfl rfl ?_
    refine wp_aload_n dX0_likersOf_18 rfl rfl ?_
    refine wp_get 2 rfl fl_RX0_18 rfl ⟨by omega, by omega⟩ dX0_likersOf_19 rfl (v := 5) (sr_2_6 (M := M) hR) ?_
    refine wp_iload_n dX0_likersOf_22 rfl rfl ?_
    refine wp_iald 5 rfl rfl ⟨by omega, by omega⟩ ⟨by omega, by omega⟩ dX0_likersOf_23 (v := (M 5 p)) (rfl) ?_
    refine wp_iload_n dX0_likersOf_24 rfl rfl ?_
    refine wp_ishr dX0_likersOf_25 ?_
    refine wp_iconst dX0_likersOf_26 (by decide) ?_
    refine wp_iand dX0_likersOf_27 ?_
    refine wp_iadd dX0_likersOf_28 (by have := lkr_r (M 5) x p; have := bnd1 (shr (M 5 p) x); omega) ?_
    refine wp_istore_n (loc' := [(2, 2), (0, x), (0, ((lkr (M 5) x p) + (bnd (shr (M 5 p) x) 1))), (0, (p : Int))]) dX0_likersOf_29 rfl (Nat.le_of_ble_eq_true rfl) rfl ?_
    refine wp_iinc (loc' := [(2, 2), (0, x), (0, ((lkr (M 5) x p) + (bnd (shr (M 5 p) x) 1))), (0, ((p : Int) + 1))]) dX0_likersOf_30 rfl (by omega) rfl ?_
    refine wp_goto (tgt := 4) dX0_likersOf_33 (by decide) ?_
    exact ih (p + 1) Q (by omega) k
set_option maxRecDepth 20000 in
set_option maxHeartbeats 4000000 in
theorem lp_likersOf_16 {l : Launch} {g : Gw} {d n : Nat} {M : Mm} (hn : 60 ≤ n) (hR : SR M) (x : Int) (len : Nat) (hlen : M 16 2 = (len : Int)) (h5 : len ≤ 5) : ∀ (m p : Nat) (Q : Option Wd → Mm → Prop), p + m = len → Q (some (0, lkr (M 19) x len)) M → Wp l g d 0 0 n m_X0_likersOf 4 [] [(2, 16), (0, x), (0, lkr (M 19) x p), (0, (p : Int))] M Q := by
  intro m
  induction m with
  | zero =>
    intro p Q hp k
    refine wp_iload_n dX0_likersOf_4 rfl rfl ?_
    refine wp_aload_n dX0_likersOf_5 rfl rfl ?_
    refine wp_get 16 rfl fl_RX0_30 rfl ⟨by omega, by omega⟩ dX0_likersOf_6 rfl (v := (M 16 2)) (rfl) ?_
    refine wp_icmp_ge (tgt := 36) dX0_likersOf_9 (by decide) (fun _ => ?_) (fun h => absurd h (by omega))
    refine wp_iload_n dX0_likersOf_36 rfl rfl ?_
    refine wp_iret rfl dX0_likersOf_37 ?_
    have e : p = len := by omega
    subst e
    exact k
  | succ m ih =>
    intro p Q hp k
    refine wp_iload_n dX0_likersOf_4 rfl rfl ?_
    refine wp_aload_n dX0_likersOf_5 rfl rfl ?_
    refine wp_get 16 rfl fl_RX0_30 rfl ⟨by omega, by omega⟩ dX0_likersOf_6 rfl (v := (M 16 2)) (rfl) ?_
    refine wp_icmp_ge (tgt := 36) dX0_likersOf_9 (by decide) (fun h => absurd h (by omega)) (fun _ => ?_)
    refine wp_iload_n dX0_likersOf_12 rfl rfl ?_
    refine wp_iconst dX0_likersOf_13 (by decide) ?_
    refine wp_icmp_ge (tgt := 36) dX0_likersOf_14 (by decide) (fun h => absurd h (by omega)) (fun _ => ?_)
    refine wp_iload_n dX0_likersOf_17 rfl rfl ?_
    refine wp_aload_n dX0_likersOf_18 rfl rfl ?_
    refine wp_get 16 rfl fl_RX0_18 rfl ⟨by omega, by omega⟩ dX0_likersOf_19 rfl (v := 19) (sr_16_6 (M := M) hR) ?_
    refine wp_iload_n dX0_likersOf_22 rfl rfl ?_
    refine wp_iald 19 rfl rfl ⟨by omega, by omega⟩ ⟨by omega, by omega⟩ dX0_likersOf_23 (v := (M 19 p)) (rfl) ?_
    refine wp_iload_n dX0_likersOf_24 rfl rfl ?_
    refine wp_ishr dX0_likersOf_25 ?_
    refine wp_iconst dX0_likersOf_26 (by decide) ?_
    refine wp_iand dX0_likersOf_27 ?_
    refine wp_iadd dX0_likersOf_28 (by have := lkr_r (M 19) x p; have := bnd1 (shr (M 19 p) x); omega) ?_
    refine wp_istore_n (loc' := [(2, 16), (0, x), (0, ((lkr (M 19) x p) + (bnd (shr (M 19 p) x) 1))), (0, (p : Int))]) dX0_likersOf_29 rfl (Nat.le_of_ble_eq_true rfl) rfl ?_
    refine wp_iinc (loc' := [(2, 16), (0, x), (0, ((lkr (M 19) x p) + (bnd (shr (M 19 p) x) 1))), (0, ((p : Int) + 1))]) dX0_likersOf_30 rfl (by omega) rfl ?_
    refine wp_goto (tgt := 4) dX0_likersOf_33 (by decide) ?_
    exact ih (p + 1) Q (by omega) k
set_option maxRecDepth 20000 in
set_option maxHeartbeats 4000000 in
theorem sp_likersOf_2 {l : Launch} {g : Gw} {d n : Nat} {M : Mm} {Q : Option Wd → Mm → Prop} (hn : 60 ≤ n) (hR : SR M) (x : Int) (h0 : 0 ≤ M 2 2) (h5 : M 2 2 ≤ 5) (k : Q (some (0, lkr (M 5) x (M 2 2).toNat)) M) : Wp l g d 0 0 n m_X0_likersOf 0 [] [(2, 2), (0, x), (9, 0), (9, 0)] M Q := by
  refine wp_iconst dX0_likersOf_0 (by decide) ?_
  refine wp_istore_n (loc' := [(2, 2), (0, x), (0, 0), (9, 0)]) dX0_likersOf_1 rfl (Nat.le_of_ble_eq_true rfl) rfl ?_
  refine wp_iconst dX0_likersOf_2 (by decide) ?_
  refine wp_istore_n (loc' := [(2, 2), (0, x), (0, 0), (0, 0)]) dX0_likersOf_3 rfl (Nat.le_of_ble_eq_true rfl) rfl ?_
  exact lp_likersOf_2 hn hR x (M 2 2).toNat (by omega) (by omega) (M 2 2).toNat 0 Q (by omega) k
set_option maxRecDepth 20000 in
set_option maxHeartbeats 4000000 in
theorem sp_likersOf_16 {l : Launch} {g : Gw} {d n : Nat} {M : Mm} {Q : Option Wd → Mm → Prop} (hn : 60 ≤ n) (hR : SR M) (x : Int) (h0 : 0 ≤ M 16 2) (h5 : M 16 2 ≤ 5) (k : Q (some (0, lkr (M 19) x (M 16 2).toNat)) M) : Wp l g d 0 0 n m_X0_likersOf 0 [] [(2, 16), (0, x), (9, 0), (9, 0)] M Q := by
  refine wp_iconst dX0_likersOf_0 (by decide) ?_
  refine wp_istore_n (loc' := [(2, 16), (0, x), (0, 0), (9, 0)]) dX0_likersOf_1 rfl (Nat.le_of_ble_eq_true rfl) rfl ?_
  refine wp_iconst dX0_likersOf_2 (by decide) ?_
  refine wp_istore_n (loc' := [(2, 16), (0, x), (0, 0), (0, 0)]) dX0_likersOf_3 rfl (Nat.le_of_ble_eq_true rfl) rfl ?_
  exact lp_likersOf_16 hn hR x (M 16 2).toNat (by omega) (by omega) (M 16 2).toNat 0 Q (by omega) k
set_option maxRecDepth 20000 in
set_option maxHeartbeats 4000000 in
theorem sp_likes_2 {l : Launch} {g : Gw} {d n : Nat} {M : Mm} {Q : Option Wd → Mm → Prop} (hn : 60 ≤ n) (hR : SR M) (x y : Int) (hx : 0 ≤ x ∧ x < M 2 2 ∧ x < 5) (k : Q (some (0, bnd (shr (M 5 x.toNat) y) 1)) M) : Wp l g d 0 0 n m_X0_likes 0 [] [(2, 2), (0, x), (0, y)] M Q := by
  refine wp_iload_n dX0_likes_0 rfl rfl ?_
  refine wp_if_lt (tgt := 30) dX0_likes_1 (by decide) (fun h => absurd h (by omega)) (fun _ => ?_)
  refine wp_iload_n dX0_likes_4 rfl rfl ?_
  refine wp_aload_n dX0_likes_5 rfl rfl ?_
  refine wp_get 2 rfl fl_RX0_30 rfl ⟨by omega, by omega⟩ dX0_likes_6 rfl (v := (M 2 2)) (rfl) ?_
  refine wp_icmp_ge (tgt := 30) dX0_likes_9 (by decide) (fun h => absurd h (by omega)) (fun _ => ?_)
  refine wp_iload_n dX0_likes_12 rfl rfl ?_
  refine wp_iconst dX0_likes_13 (by decide) ?_
  refine wp_icmp_ge (tgt := 30) dX0_likes_14 (by decide) (fun h => absurd h (by omega)) (fun _ => ?_)
  refine wp_aload_n dX0_likes_17 rfl rfl ?_
  refine wp_get 2 rfl fl_RX0_18 rfl ⟨by omega, by omega⟩ dX0_likes_18 rfl (v := 5) (sr_2_6 (M := M) hR) ?_
  refine wp_iload_n dX0_likes_21 rfl rfl ?_
  refine wp_iald 5 rfl rfl ⟨by omega, by omega⟩ ⟨by omega, by omega⟩ dX0_likes_22 (v := (M 5 (x).toNat)) (rfl) ?_
  refine wp_iload_n dX0_likes_23 rfl rfl ?_
  refine wp_ishr dX0_likes_24 ?_
  refine wp_iconst dX0_likes_25 (by decide) ?_
  refine wp_iand dX0_likes_26 ?_
  refine wp_goto (tgt := 31) dX0_likes_27 (by decide) ?_
  refine wp_iret rfl dX0_likes_31 ?_
  exact k
set_option maxRecDepth 20000 in
set_option maxHeartbeats 4000000 in
theorem sp_likes_16 {l : Launch} {g : Gw} {d n : Nat} {M : Mm} {Q : Option Wd → Mm → Prop} (hn : 60 ≤ n) (hR : SR M) (x y : Int) (hx : 0 ≤ x ∧ x < M 16 2 ∧ x < 5) (k : Q (some (0, bnd (shr (M 19 x.toNat) y) 1)) M) : Wp l g d 0 0 n m_X0_likes 0 [] [(2, 16), (0, x), (0, y)] M Q := by
  refine wp_iload_n dX0_likes_0 rfl rfl ?_
  refine wp_if_lt (tgt := 30) dX0_likes_1 (by decide) (fun h => absurd h (by omega)) (fun _ => ?_)
  refine wp_iload_n dX0_likes_4 rfl rfl ?_
  refine wp_aload_n dX0_likes_5 rfl rfl ?_
  refine wp_get 16 rfl fl_RX0_30 rfl ⟨by omega, by omega⟩ dX0_likes_6 rfl (v := (M 16 2)) (rfl) ?_
  refine wp_icmp_ge (tgt := 30) dX0_likes_9 (by decide) (fun h => absurd h (by omega)) (fun _ => ?_)
  refine wp_iload_n dX0_likes_12 rfl rfl ?_
  refine wp_iconst dX0_likes_13 (by decide) ?_
  refine wp_icmp_ge (tgt := 30) dX0_likes_14 (by decide) (fun h => absurd h (by omega)) (fun _ => ?_)
  refine wp_aload_n dX0_likes_17 rfl rfl ?_
  refine wp_get 16 rfl fl_RX0_18 rfl ⟨by omega, by omega⟩ dX0_likes_18 rfl (v := 19) (sr_16_6 (M := M) hR) ?_
  refine wp_iload_n dX0_likes_21 rfl rfl ?_
  refine wp_iald 19 rfl rfl ⟨by omega, by omega⟩ ⟨by omega, by omega⟩ dX0_likes_22 (v := (M 19 (x).toNat)) (rfl) ?_
  refine wp_iload_n dX0_likes_23 rfl rfl ?_
  refine wp_ishr dX0_likes_24 ?_
  refine wp_iconst dX0_likes_25 (by decide) ?_
  refine wp_iand dX0_likes_26 ?_
  refine wp_goto (tgt := 31) dX0_likes_27 (by decide) ?_
  refine wp_iret rfl dX0_likes_31 ?_
  exact k
set_option maxRecDepth 20000 in
set_option maxHeartbeats 4000000 in
theorem sp_isHeld_2 {l : Launch} {g : Gw} {d n : Nat} {M : Mm} {Q : Option Wd → Mm → Prop} (hn : 60 ≤ n) (hd : 1 ≤ d) (hR : SR M) (x y : Int) (hy : 0 ≤ y ∧ y < M 2 2 ∧ y < 5) (kt : x = 0 ∧ 0 < M 7 y.toNat → Q (some (0, 1)) M) (kf : ¬ (x = 0 ∧ 0 < M 7 y.toNat) → Q (some (0, 0)) M) : Wp l g d 0 0 n m_X0_isHeld 0 [] [(2, 2), (0, x), (0, y)] M Q := by
  refine wp_iload_n dX0_isHeld_0 rfl rfl ?_
  refine wp_if_ne (tgt := 20) dX0_isHeld_1 (by decide) (fun h1 => ?_) (fun h1 => ?_)
  · refine wp_iconst dX0_isHeld_20 (by decide) ?_
    refine wp_zret rfl (by omega) dX0_isHeld_21 ?_
    exact kf (by omega)
  · refine wp_aload_n dX0_isHeld_4 rfl rfl ?_
    refine wp_aload_n dX0_isHeld_5 rfl rfl ?_
    refine wp_get 2 rfl fl_RX0_24 rfl ⟨by omega, by omega⟩ dX0_isHeld_6 rfl (v := 7) (sr_2_8 (M := M) hR) ?_
    refine wp_iload_n dX0_isHeld_9 rfl rfl ?_
    refine wp_callV0 (d' := d - 1) cv_RX0_47 2 rfl [(2, 7), (0, y)] [] rfl rfl (Or.inl ⟨_, _, rfl, by decide, rfl, by omega, by omega⟩) (by omega) (Nat.le_of_ble_eq_true rfl) dX0_isHeld_10 rfl (Nat.le_of_ble_eq_true rfl) (by omega) (loc1 := [(2, 2), (2, 7), (0, y)]) rfl ?_
    refine sp_of_served_2 hn hR y hy ?_
    refine wp_if_le (tgt := 20) dX0_isHeld_13 (by decide) (fun h13 => ?_) (fun h13 => ?_)
    · refine wp_iconst dX0_isHeld_20 (by decide) ?_
      refine wp_zret rfl (by omega) dX0_isHeld_21 ?_
      exact kf (by omega)
    · refine wp_iconst dX0_isHeld_16 (by decide) ?_
      refine wp_goto (tgt := 21) dX0_isHeld_17 (by decide) ?_
      refine wp_zret rfl (by omega) dX0_isHeld_21 ?_
      exact kt (by omega)
set_option maxRecDepth 20000 in
set_option maxHeartbeats 4000000 in
theorem sp_isHeld_16 {l : Launch} {g : Gw} {d n : Nat} {M : Mm} {Q : Option Wd → Mm → Prop} (hn : 60 ≤ n) (hd : 1 ≤ d) (hR : SR M) (x y : Int) (hy : 0 ≤ y ∧ y < M 16 2 ∧ y < 5) (kt : x = 0 ∧ 0 < M 21 y.toNat → Q (some (0, 1)) M) (kf : ¬ (x = 0 ∧ 0 < M 21 y.toNat) → Q (some (0, 0)) M) : Wp l g d 0 0 n m_X0_isHeld 0 [] [(2, 16), (0, x), (0, y)] M Q := by
  refine wp_iload_n dX0_isHeld_0 rfl rfl ?_
  refine wp_if_ne (tgt := 20) dX0_isHeld_1 (by decide) (fun h1 => ?_) (fun h1 => ?_)
  · refine wp_iconst dX0_isHeld_20 (by decide) ?_
    refine wp_zret rfl (by omega) dX0_isHeld_21 ?_
    exact kf (by omega)
  · refine wp_aload_n dX0_isHeld_4 rfl rfl ?_
    refine wp_aload_n dX0_isHeld_5 rfl rfl ?_
    refine wp_get 16 rfl fl_RX0_24 rfl ⟨by omega, by omega⟩ dX0_isHeld_6 rfl (v := 21) (sr_16_8 (M := M) hR) ?_
    refine wp_iload_n dX0_isHeld_9 rfl rfl ?_
    refine wp_callV0 (d' := d - 1) cv_RX0_47 16 rfl [(2, 21), (0, y)] [] rfl rfl (Or.inl ⟨_, _, rfl, by decide, rfl, by omega, by omega⟩) (by omega) (Nat.le_of_ble_eq_true rfl) dX0_isHeld_10 rfl (Nat.le_of_ble_eq_true rfl) (by omega) (loc1 := [(2, 16), (2, 21), (0, y)]) rfl ?_
    refine sp_of_served_16 hn hR y hy ?_
    refine wp_if_le (tgt := 20) dX0_isHeld_13 (by decide) (fun h13 => ?_) (fun h13 => ?_)
    · refine wp_iconst dX0_isHeld_20 (by decide) ?_
      refine wp_zret rfl (by omega) dX0_isHeld_21 ?_
      exact kf (by omega)
    · refine wp_iconst dX0_isHeld_16 (by decide) ?_
      refine wp_goto (tgt := 21) dX0_isHeld_17 (by decide) ?_
      refine wp_zret rfl (by omega) dX0_isHeld_21 ?_
      exact kt (by omega)
set_option maxRecDepth 20000 in
set_option maxHeartbeats 4000000 in
theorem sp_rowOf_2 {l : Launch} {g : Gw} {d n : Nat} {M : Mm} {Q : Option Wd → Mm → Prop} (hn : 60 ≤ n) (hR : SR M) (x : Int) (k1 : x = 1 → Q (some (2, 4)) M) (k2 : x = 2 → Q (some (2, 5)) M) (k3 : x = 3 → Q (some (2, 6)) M) (k4 : x = 4 → Q (some (2, 7)) M) (k0 : x < 1 ∨ 4 < x → Q (some (2, 0)) M) : Wp l g d 0 0 n m_X0_rowOf 0 [] [(2, 2), (0, x)] M Q := by
  refine wp_iload_n dX0_rowOf_0 rfl rfl ?_
  by_cases h1_0 : x = 1
  · refine wp_tabIn dX0_rowOf_1 0 (by omega) (by decide) rfl (tgt := 32) (by decide) ?_
    refine wp_aload_n dX0_rowOf_32 rfl rfl ?_
    refine wp_get 2 rfl fl_RX0_15 rfl ⟨by omega, by omega⟩ dX0_rowOf_33 rfl (v := 4) (sr_2_5 (M := M) hR) ?_
    refine wp_aret rfl (Or.inr ⟨_, rfl⟩) dX0_rowOf_36 ?_
    exact k1 (by omega)
  by_cases h1_1 : x = 2
  · refine wp_tabIn dX0_rowOf_1 1 (by omega) (by decide) rfl (tgt := 37) (by decide) ?_
    refine wp_aload_n dX0_rowOf_37 rfl rfl ?_
    refine wp_get 2 rfl fl_RX0_18 rfl ⟨by omega, by omega⟩ dX0_rowOf_38 rfl (v := 5) (sr_2_6 (M := M) hR) ?_
    refine wp_aret rfl (Or.inr ⟨_, rfl⟩) dX0_rowOf_41 ?_
    exact k2 (by omega)
  by_cases h1_2 : x = 3
  · refine wp_tabIn dX0_rowOf_1 2 (by omega) (by decide) rfl (tgt := 42) (by decide) ?_
    refine wp_aload_n dX0_rowOf_42 rfl rfl ?_
    refine wp_get 2 rfl fl_RX0_21 rfl ⟨by omega, by omega⟩ dX0_rowOf_43 rfl (v := 6) (sr_2_7 (M := M) hR) ?_
    refine wp_aret rfl (Or.inr ⟨_, rfl⟩) dX0_rowOf_46 ?_
    exact k3 (by omega)
  by_cases h1_3 : x = 4
  · refine wp_tabIn dX0_rowOf_1 3 (by omega) (by decide) rfl (tgt := 47) (by decide) ?_
    refine wp_aload_n dX0_rowOf_47 rfl rfl ?_
    refine wp_get 2 rfl fl_RX0_24 rfl ⟨by omega, by omega⟩ dX0_rowOf_48 rfl (v := 7) (sr_2_8 (M := M) hR) ?_
    refine wp_aret rfl (Or.inr ⟨_, rfl⟩) dX0_rowOf_51 ?_
    exact k4 (by omega)
  refine wp_tabOut dX0_rowOf_1 (by omega) (tgt := 52) (by decide) ?_
  refine wp_null dX0_rowOf_52 ?_
  refine wp_aret rfl (Or.inr ⟨_, rfl⟩) dX0_rowOf_53 ?_
  exact k0 (by omega)
set_option maxRecDepth 20000 in
set_option maxHeartbeats 4000000 in
theorem sp_join_2 {l : Launch} {g : Gw} {d n : Nat} {M : Mm} {Q : Option Wd → Mm → Prop} (hn : 60 ≤ n) (hR : SR M) (x : Int) (h0 : 0 ≤ M 2 3) (h5 : M 2 3 < 5) (k : Q (some (0, M 2 3 + 1 - 1)) (mu (mu M 8 (M 2 3).toNat x) 2 3 (M 2 3 + 1))) : Wp l g d 0 0 n m_X0_join 0 [] [(2, 2), (0, x)] M Q := by
  refine wp_aload_n dX0_join_0 rfl rfl ?_
  refine wp_get 2 rfl fl_RX0_40 rfl ⟨by omega, by omega⟩ dX0_join_1 rfl (v := (M 2 3)) (rfl) ?_
  refine wp_if_lt (tgt := 15) dX0_join_4 (by decide) (fun h => absurd h (by omega)) (fun _ => ?_)
  refine wp_aload_n dX0_join_7 rfl rfl ?_
  refine wp_get 2 rfl fl_RX0_40 rfl ⟨by omega, by omega⟩ dX0_join_8 rfl (v := (M 2 3)) (rfl) ?_
  refine wp_iconst dX0_join_11 (by decide) ?_
  refine wp_icmp_lt (tgt := 17) dX0_join_12 (by decide) (fun _ => ?_) (fun h => absurd h (by omega))
  refine wp_aload_n dX0_join_17 rfl rfl ?_
  refine wp_get 2 rfl fl_RX0_27 rfl ⟨by omega, by omega⟩ dX0_join_18 rfl (v := 8) (sr_2_9 (M := M) hR) ?_
  refine wp_aload_n dX0_join_21 rfl rfl ?_
  refine wp_get 2 rfl fl_RX0_40 rfl ⟨by omega, by omega⟩ dX0_join_22 rfl (v := (M 2 3)) (rfl) ?_
  refine wp_iload_n dX0_join_25 rfl rfl ?_
  refine wp_iast 8 rfl rfl ⟨by omega, by omega⟩ ⟨by omega, by omega⟩ dX0_join_26 (jn := ((M 2 3)).toNat) rfl ?_
  refine wp_aload_n dX0_join_27 rfl rfl ?_
  refine wp_dup dX0_join_28 (Or.inr rfl) ?_
  refine wp_get 2 rfl fl_RX0_40 rfl ⟨by omega, by omega⟩ dX0_join_29 rfl (v := (M 2 3)) (rfl) ?_
  refine wp_iconst dX0_join_32 (by decide) ?_
  refine wp_iadd dX0_join_33 (by omega) ?_
  refine wp_puti 2 rfl fl_RX0_40 rfl ⟨by omega, by omega⟩ dX0_join_34 rfl rfl ?_
  refine wp_aload_n dX0_join_37 rfl rfl ?_
  refine wp_get 2 rfl fl_RX0_40 rfl ⟨by omega, by omega⟩ dX0_join_38 rfl (v := ((M 2 3) + 1)) (rfl) ?_
  refine wp_iconst dX0_join_41 (by decide) ?_
  refine wp_isub dX0_join_42 (by omega) ?_
  refine wp_iret rfl dX0_join_43 ?_
  exact k
set_option maxRecDepth 20000 in
set_option maxHeartbeats 4000000 in
theorem sp_moveUp_2 {l : Launch} {g : Gw} {d n : Nat} {M : Mm} {Q : Option Wd → Mm → Prop} (hn : 60 ≤ n) (hR : SR M) (x : Int) (h0 : 1 ≤ x) (h1 : x < M 2 3) (h5 : M 2 3 ≤ 5) (k : Q none (mu (mu M 8 x.toNat (M 8 (x - 1).toNat)) 8 (x - 1).toNat (M 8 x.toNat))) : Wp l g d 0 0 n m_X0_moveUp 0 [] [(2, 2), (0, x), (9, 0)] M Q := by
  refine wp_iload_n dX0_moveUp_0 rfl rfl ?_
  refine wp_iconst dX0_moveUp_1 (by decide) ?_
  refine wp_icmp_lt (tgt := 18) dX0_moveUp_2 (by decide) (fun h => absurd h (by omega)) (fun _ => ?_)
  refine wp_iload_n dX0_moveUp_5 rfl rfl ?_
  refine wp_aload_n dX0_moveUp_6 rfl rfl ?_
  refine wp_get 2 rfl fl_RX0_40 rfl ⟨by omega, by omega⟩ dX0_moveUp_7 rfl (v := (M 2 3)) (rfl) ?_
  refine wp_icmp_ge (tgt := 18) dX0_moveUp_10 (by decide) (fun h => absurd h (by omega)) (fun _ => ?_)
  refine wp_iload_n dX0_moveUp_13 rfl rfl ?_
  refine wp_iconst dX0_moveUp_14 (by decide) ?_
  refine wp_icmp_lt (tgt := 19) dX0_moveUp_15 (by decide) (fun _ => ?_) (fun h => absurd h (by omega))
  refine wp_aload_n dX0_moveUp_19 rfl rfl ?_
  refine wp_get 2 rfl fl_RX0_27 rfl ⟨by omega, by omega⟩ dX0_moveUp_20 rfl (v := 8) (sr_2_9 (M := M) hR) ?_
  refine wp_iload_n dX0_moveUp_23 rfl rfl ?_
  refine wp_iald 8 rfl rfl ⟨by omega, by omega⟩ ⟨by omega, by omega⟩ dX0_moveUp_24 (v := (M 8 (x).toNat)) (rfl) ?_
  refine wp_istore_n (loc' := [(2, 2), (0, x), (0, (M 8 (x).toNat))]) dX0_moveUp_25 rfl (Nat.le_of_ble_eq_true rfl) rfl ?_
  refine wp_aload_n dX0_moveUp_26 rfl rfl ?_
  refine wp_get 2 rfl fl_RX0_27 rfl ⟨by omega, by omega⟩ dX0_moveUp_27 rfl (v := 8) (sr_2_9 (M := M) hR) ?_
  refine wp_iload_n dX0_moveUp_30 rfl rfl ?_
  refine wp_aload_n dX0_moveUp_31 rfl rfl ?_
  refine wp_get 2 rfl fl_RX0_27 rfl ⟨by omega, by omega⟩ dX0_moveUp_32 rfl (v := 8) (sr_2_9 (M := M) hR) ?_
  refine wp_iload_n dX0_moveUp_35 rfl rfl ?_
  refine wp_iconst dX0_moveUp_36 (by decide) ?_
  refine wp_isub dX0_moveUp_37 (by omega) ?_
  refine wp_iald 8 rfl rfl ⟨by omega, by omega⟩ ⟨by omega, by omega⟩ dX0_moveUp_38 (v := (M 8 ((x - 1)).toNat)) (rfl) ?_
  refine wp_iast 8 rfl rfl ⟨by omega, by omega⟩ ⟨by omega, by omega⟩ dX0_moveUp_39 (jn := (x).toNat) rfl ?_
  refine wp_aload_n dX0_moveUp_40 rfl rfl ?_
  refine wp_get 2 rfl fl_RX0_27 rfl ⟨by omega, by omega⟩ dX0_moveUp_41 rfl (v := 8) (sr_2_9 (M := M) hR) ?_
  refine wp_iload_n dX0_moveUp_44 rfl rfl ?_
  refine wp_iconst dX0_moveUp_45 (by decide) ?_
  refine wp_isub dX0_moveUp_46 (by omega) ?_
  refine wp_iload_n dX0_moveUp_47 rfl rfl ?_
  refine wp_iast 8 rfl rfl ⟨by omega, by omega⟩ ⟨by omega, by omega⟩ dX0_moveUp_48 (jn := ((x - 1)).toNat) rfl ?_
  refine wp_vret rfl dX0_moveUp_49 ?_
  exact k
set_option maxRecDepth 20000 in
set_option maxHeartbeats 4000000 in
theorem sp_bear_2 {l : Launch} {g : Gw} {d n : Nat} {M : Mm} {Q : Option Wd → Mm → Prop} (hn : 60 ≤ n) (hd : 1 ≤ d) (hR : SR M) (x y : Int) (kF : 5 ≤ M 2 2 → Q (some (0, -4)) M) (h0 : 0 ≤ M 2 2) (h3 : 0 ≤ M 2 3) (h32 : M 2 3 ≤ M 2 2) (k : M 2 2 < 5 → Q (some (0, M 2 2)) (mu (mu (mu (mu (mu (mu (mu (mu M 3 (M 2 2).toNat x) 4 (M 2 2).toNat y) 5 (M 2 2).toNat 0) 6 (M 2 2).toNat 0) 7 (M 2 2).toNat 0) 2 2 (M 2 2 + 1)) 8 (M 2 3).toNat (M 2 2)) 2 3 (M 2 3 + 1))) : Wp l g d 0 0 n m_X0_bear 0 [] [(2, 2), (0, x), (0, y), (9, 0)] M Q := by
  refine wp_aload_n dX0_bear_0 rfl rfl ?_
  refine wp_get 2 rfl fl_RX0_30 rfl ⟨by omega, by omega⟩ dX0_bear_1 rfl (v := (M 2 2)) (rfl) ?_
  refine wp_if_lt (tgt := 15) dX0_bear_4 (by decide) (fun h => absurd h (by omega)) (fun _ => ?_)
  refine wp_aload_n dX0_bear_7 rfl rfl ?_
  refine wp_get 2 rfl fl_RX0_30 rfl ⟨by omega, by omega⟩ dX0_bear_8 rfl (v := (M 2 2)) (rfl) ?_
  refine wp_iconst dX0_bear_11 (by decide) ?_
  refine wp_icmp_lt (tgt := 18) dX0_bear_12 (by decide) (fun h12 => ?_) (fun h12 => ?_)
  · refine wp_aload_n dX0_bear_18 rfl rfl ?_
    refine wp_get 2 rfl fl_RX0_30 rfl ⟨by omega, by omega⟩ dX0_bear_19 rfl (v := (M 2 2)) (rfl) ?_
    refine wp_istore_n (loc' := [(2, 2), (0, x), (0, y), (0, (M 2 2))]) dX0_bear_22 rfl (Nat.le_of_ble_eq_true rfl) rfl ?_
    refine wp_aload_n dX0_bear_23 rfl rfl ?_
    refine wp_get 2 rfl fl_RX0_9 rfl ⟨by omega, by omega⟩ dX0_bear_24 rfl (v := 3) (sr_2_4 (M := M) hR) ?_
    refine wp_iload_n dX0_bear_27 rfl rfl ?_
    refine wp_iload_n dX0_bear_28 rfl rfl ?_
    refine wp_iast 3 rfl rfl ⟨by omega, by omega⟩ ⟨by omega, by omega⟩ dX0_bear_29 (jn := ((M 2 2)).toNat) rfl ?_
    refine wp_aload_n dX0_bear_30 rfl rfl ?_
    refine wp_get 2 rfl fl_RX0_15 rfl ⟨by omega, by omega⟩ dX0_bear_31 rfl (v := 4) (sr_2_5 (M := M) hR) ?_
    refine wp_iload_n dX0_bear_34 rfl rfl ?_
    refine wp_iload_n dX0_bear_35 rfl rfl ?_
    refine wp_iast 4 rfl rfl ⟨by omega, by omega⟩ ⟨by omega, by omega⟩ dX0_bear_36 (jn := ((M 2 2)).toNat) rfl ?_
    refine wp_aload_n dX0_bear_37 rfl rfl ?_
    refine wp_get 2 rfl fl_RX0_18 rfl ⟨by omega, by omega⟩ dX0_bear_38 rfl (v := 5) (sr_2_6 (M := M) hR) ?_
    refine wp_iload_n dX0_bear_41 rfl rfl ?_
    refine wp_iconst dX0_bear_42 (by decide) ?_
    refine wp_iast 5 rfl rfl ⟨by omega, by omega⟩ ⟨by omega, by omega⟩ dX0_bear_43 (jn := ((M 2 2)).toNat) rfl ?_
    refine wp_aload_n dX0_bear_44 rfl rfl ?_
    refine wp_get 2 rfl fl_RX0_21 rfl ⟨by omega, by omega⟩ dX0_bear_45 rfl (v := 6) (sr_2_7 (M := M) hR) ?_
    refine wp_iload_n dX0_bear_48 rfl rfl ?_
    refine wp_iconst dX0_bear_49 (by decide) ?_
    refine wp_iast 6 rfl rfl ⟨by omega, by omega⟩ ⟨by omega, by omega⟩ dX0_bear_50 (jn := ((M 2 2)).toNat) rfl ?_
    refine wp_aload_n dX0_bear_51 rfl rfl ?_
    refine wp_get 2 rfl fl_RX0_24 rfl ⟨by omega, by omega⟩ dX0_bear_52 rfl (v := 7) (sr_2_8 (M := M) hR) ?_
    refine wp_iload_n dX0_bear_55 rfl rfl ?_
    refine wp_iconst dX0_bear_56 (by decide) ?_
    refine wp_iast 7 rfl rfl ⟨by omega, by omega⟩ ⟨by omega, by omega⟩ dX0_bear_57 (jn := ((M 2 2)).toNat) rfl ?_
    refine wp_aload_n dX0_bear_58 rfl rfl ?_
    refine wp_dup dX0_bear_59 (Or.inr rfl) ?_
    refine wp_get 2 rfl fl_RX0_30 rfl ⟨by omega, by omega⟩ dX0_bear_60 rfl (v := (M 2 2)) (rfl) ?_
    refine wp_iconst dX0_bear_63 (by decide) ?_
    refine wp_iadd dX0_bear_64 (by omega) ?_
    refine wp_puti 2 rfl fl_RX0_30 rfl ⟨by omega, by omega⟩ dX0_bear_65 rfl rfl ?_
    refine wp_aload_n dX0_bear_68 rfl rfl ?_
    refine wp_iload_n dX0_bear_69 rfl rfl ?_
    refine wp_callV0 (d' := d - 1) cv_RX0_43 2 rfl [(0, (M 2 2))] [] rfl rfl (Or.inl ⟨_, _, rfl, by decide, rfl, by omega, by omega⟩) (by omega) (Nat.le_of_ble_eq_true rfl) dX0_bear_70 rfl (Nat.le_of_ble_eq_true rfl) (by omega) (loc1 := [(2, 2), (0, (M 2 2))]) rfl ?_
    refine wp_aload_n dX0_join_0 rfl rfl ?_
    refine wp_get 2 rfl fl_RX0_40 rfl ⟨by omega, by omega⟩ dX0_join_1 rfl (v := (M 2 3)) (rfl) ?_
    refine wp_if_lt (tgt := 15) dX0_join_4 (by decide) (fun h => absurd h (by omega)) (fun _ => ?_)
    refine wp_aload_n dX0_join_7 rfl rfl ?_
    refine wp_get 2 rfl fl_RX0_40 rfl ⟨by omega, by omega⟩ dX0_join_8 rfl (v := (M 2 3)) (rfl) ?_
    refine wp_iconst dX0_join_11 (by decide) ?_
    refine wp_icmp_lt (tgt := 17) dX0_join_12 (by decide) (fun _ => ?_) (fun h => absurd h (by omega))
    refine wp_aload_n dX0_join_17 rfl rfl ?_
    refine wp_get 2 rfl fl_RX0_27 rfl ⟨by omega, by omega⟩ dX0_join_18 rfl (v := 8) (sr_2_9 (M := M) hR) ?_
    refine wp_aload_n dX0_join_21 rfl rfl ?_
    refine wp_get 2 rfl fl_RX0_40 rfl ⟨by omega, by omega⟩ dX0_join_22 rfl (v := (M 2 3)) (rfl) ?_
    refine wp_iload_n dX0_join_25 rfl rfl ?_
    refine wp_iast 8 rfl rfl ⟨by omega, by omega⟩ ⟨by omega, by omega⟩ dX0_join_26 (jn := ((M 2 3)).toNat) rfl ?_
    refine wp_aload_n dX0_join_27 rfl rfl ?_
    refine wp_dup dX0_join_28 (Or.inr rfl) ?_
    refine wp_get 2 rfl fl_RX0_40 rfl ⟨by omega, by omega⟩ dX0_join_29 rfl (v := (M 2 3)) (rfl) ?_
    refine wp_iconst dX0_join_32 (by decide) ?_
    refine wp_iadd dX0_join_33 (by omega) ?_
    refine wp_puti 2 rfl fl_RX0_40 rfl ⟨by omega, by omega⟩ dX0_join_34 rfl rfl ?_
    refine wp_aload_n dX0_join_37 rfl rfl ?_
    refine wp_get 2 rfl fl_RX0_40 rfl ⟨by omega, by omega⟩ dX0_join_38 rfl (v := ((M 2 3) + 1)) (rfl) ?_
    refine wp_iconst dX0_join_41 (by decide) ?_
    refine wp_isub dX0_join_42 (by omega) ?_
    refine wp_iret rfl dX0_join_43 ?_
    refine wp_pop dX0_bear_73 (Or.inl rfl) ?_
    refine wp_iload_n dX0_bear_74 rfl rfl ?_
    refine wp_iret rfl dX0_bear_75 ?_
    exact k (by omega)
  · refine wp_bipush dX0_bear_15 (by decide) (by decide) ?_
    refine wp_iret rfl dX0_bear_17 ?_
    exact kF (by omega)
def becM_16_2 (M : Mm) : Mm := (mu (mu (mu (mu (mu (mu (mu (mu (mu (mu (mu (mu (mu (mu (mu (mu (mu (mu (mu (mu (mu (mu (mu (mu (mu (mu (mu (mu (mu (mu (mu (mu (mu (mu M 16 0 (M 2 0)) 16 1 (M 2 1)) 16 2 (M 2 2)) 16 3 (M 2 3)) 17 0 (M 3 0)) 18 0 (M 4 0)) 19 0 (M 5 0)) 20 0 (M 6 0)) 21 0 (M 7 0)) 22 0 (M 8 0)) 17 1 (M 3 1)) 18 1 (M 4 1)) 19 1 (M 5 1)) 20 1 (M 6 1)) 21 1 (M 7 1)) 22 1 (M 8 1)) 17 2 (M 3 2)) 18 2 (M 4 2)) 19 2 (M 5 2)) 20 2 (M 6 2)) 21 2 (M 7 2)) 22 2 (M 8 2)) 17 3 (M 3 3)) 18 3 (M 4 3)) 19 3 (M 5 3)) 20 3 (M 6 3)) 21 3 (M 7 3)) 22 3 (M 8 3)) 17 4 (M 3 4)) 18 4 (M 4 4)) 19 4 (M 5 4)) 20 4 (M 6 4)) 21 4 (M 7 4)) 22 4 (M 8 4))
set_option maxRecDepth 20000 in
set_option maxHeartbeats 4000000 in
theorem sp_become_16_2 {l : Launch} {g : Gw} {d n : Nat} {M : Mm} {Q : Option Wd → Mm → Prop} (hn : 60 ≤ n) (hR : SR M) (k : Q none (becM_16_2 M)) : Wp l g d 0 0 n m_X0_become 0 [] [(2, 16), (2, 2), (9, 0)] M Q := by
  refine wp_aload_n dX0_become_0 rfl rfl ?_
  refine wp_aload_n dX0_become_1 rfl rfl ?_
  refine wp_get 2 rfl fl_RX0_34 rfl ⟨by omega, by omega⟩ dX0_become_2 rfl (v := (M 2 0)) (rfl) ?_
  refine wp_puti 16 rfl fl_RX0_34 rfl ⟨by omega, by omega⟩ dX0_become_5 rfl rfl ?_
  refine wp_aload_n dX0_become_8 rfl rfl ?_
  refine wp_aload_n dX0_become_9 rfl rfl ?_
  refine wp_get 2 rfl fl_RX0_37 rfl ⟨by omega, by omega⟩ dX0_become_10 rfl (v := (M 2 1)) (rfl) ?_
  refine wp_puti 16 rfl fl_RX0_37 rfl ⟨by omega, by omega⟩ dX0_become_13 rfl rfl ?_
  refine wp_aload_n dX0_become_16 rfl rfl ?_
  refine wp_aload_n dX0_become_17 rfl rfl ?_
  refine wp_get 2 rfl fl_RX0_30 rfl ⟨by omega, by omega⟩ dX0_become_18 rfl (v := (M 2 2)) (rfl) ?_
  refine wp_puti 16 rfl fl_RX0_30 rfl ⟨by omega, by omega⟩ dX0_become_21 rfl rfl ?_
  refine wp_aload_n dX0_become_24 rfl rfl ?_
  refine wp_aload_n dX0_become_25 rfl rfl ?_
  refine wp_get 2 rfl fl_RX0_40 rfl ⟨by omega, by omega⟩ dX0_become_26 rfl (v := (M 2 3)) (rfl) ?_
  refine wp_puti 16 rfl fl_RX0_40 rfl ⟨by omega, by omega⟩ dX0_become_29 rfl rfl ?_
  refine wp_iconst dX0_become_32 (by decide) ?_
  refine wp_istore_n (loc' := [(2, 16), (2, 2), (0, 0)]) dX0_become_33 rfl (Nat.le_of_ble_eq_true rfl) rfl ?_
  refine wp_iload_n dX0_become_34 rfl rfl ?_
  refine wp_iconst dX0_become_35 (by decide) ?_
  refine wp_icmp_ge (tgt := 117) dX0_become_36 (by decide) (fun h => absurd h (by decide)) (fun _ => ?_)
  refine wp_aload_n dX0_become_39 rfl rfl ?_
  refine wp_get 16 rfl fl_RX0_9 rfl ⟨by omega, by omega⟩ dX0_become_40 rfl (v := 17) (sr_16_4 (M := M) hR) ?_
  refine wp_iload_n dX0_become_43 rfl rfl ?_
  refine wp_aload_n dX0_become_44 rfl rfl ?_
  refine wp_get 2 rfl fl_RX0_9 rfl ⟨by omega, by omega⟩ dX0_become_45 rfl (v := 3) (sr_2_4 (M := M) hR) ?_
  refine wp_iload_n dX0_become_48 rfl rfl ?_
  refine wp_iald 3 rfl rfl ⟨by omega, by omega⟩ ⟨by omega, by omega⟩ dX0_become_49 (v := (M 3 0)) (rfl) ?_
  refine wp_iast 17 rfl rfl ⟨by omega, by omega⟩ ⟨by omega, by omega⟩ dX0_become_50 (jn := 0) rfl ?_
  refine wp_aload_n dX0_become_51 rfl rfl ?_
  refine wp_get 16 rfl fl_RX0_15 rfl ⟨by omega, by omega⟩ dX0_become_52 rfl (v := 18) (sr_16_5 (M := M) hR) ?_
  refine wp_iload_n dX0_become_55 rfl rfl ?_
  refine wp_aload_n dX0_become_56 rfl rfl ?_
  refine wp_get 2 rfl fl_RX0_15 rfl ⟨by omega, by omega⟩ dX0_become_57 rfl (v := 4) (sr_2_5 (M := M) hR) ?_
  refine wp_iload_n dX0_become_60 rfl rfl ?_
  refine wp_iald 4 rfl rfl ⟨by omega, by omega⟩ ⟨by omega, by omega⟩ dX0_become_61 (v := (M 4 0)) (rfl) ?_
  refine wp_iast 18 rfl rfl ⟨by omega, by omega⟩ ⟨by omega, by omega⟩ dX0_become_62 (jn := 0) rfl ?_
  refine wp_aload_n dX0_become_63 rfl rfl ?_
  refine wp_get 16 rfl fl_RX0_18 rfl ⟨by omega, by omega⟩ dX0_become_64 rfl (v := 19) (sr_16_6 (M := M) hR) ?_
  refine wp_iload_n dX0_become_67 rfl rfl ?_
  refine wp_aload_n dX0_become_68 rfl rfl ?_
  refine wp_get 2 rfl fl_RX0_18 rfl ⟨by omega, by omega⟩ dX0_become_69 rfl (v := 5) (sr_2_6 (M := M) hR) ?_
  refine wp_iload_n dX0_become_72 rfl rfl ?_
  refine wp_iald 5 rfl rfl ⟨by omega, by omega⟩ ⟨by omega, by omega⟩ dX0_become_73 (v := (M 5 0)) (rfl) ?_
  refine wp_iast 19 rfl rfl ⟨by omega, by omega⟩ ⟨by omega, by omega⟩ dX0_become_74 (jn := 0) rfl ?_
  refine wp_aload_n dX0_become_75 rfl rfl ?_
  refine wp_get 16 rfl fl_RX0_21 rfl ⟨by omega, by omega⟩ dX0_become_76 rfl (v := 20) (sr_16_7 (M := M) hR) ?_
  refine wp_iload_n dX0_become_79 rfl rfl ?_
  refine wp_aload_n dX0_become_80 rfl rfl ?_
  refine wp_get 2 rfl fl_RX0_21 rfl ⟨by omega, by omega⟩ dX0_become_81 rfl (v := 6) (sr_2_7 (M := M) hR) ?_
  refine wp_iload_n dX0_become_84 rfl rfl ?_
  refine wp_iald 6 rfl rfl ⟨by omega, by omega⟩ ⟨by omega, by omega⟩ dX0_become_85 (v := (M 6 0)) (rfl) ?_
  refine wp_iast 20 rfl rfl ⟨by omega, by omega⟩ ⟨by omega, by omega⟩ dX0_become_86 (jn := 0) rfl ?_
  refine wp_aload_n dX0_become_87 rfl rfl ?_
  refine wp_get 16 rfl fl_RX0_24 rfl ⟨by omega, by omega⟩ dX0_become_88 rfl (v := 21) (sr_16_8 (M := M) hR) ?_
  refine wp_iload_n dX0_become_91 rfl rfl ?_
  refine wp_aload_n dX0_become_92 rfl rfl ?_
  refine wp_get 2 rfl fl_RX0_24 rfl ⟨by omega, by omega⟩ dX0_become_93 rfl (v := 7) (sr_2_8 (M := M) hR) ?_
  refine wp_iload_n dX0_become_96 rfl rfl ?_
  refine wp_iald 7 rfl rfl ⟨by omega, by omega⟩ ⟨by omega, by omega⟩ dX0_become_97 (v := (M 7 0)) (rfl) ?_
  refine wp_iast 21 rfl rfl ⟨by omega, by omega⟩ ⟨by omega, by omega⟩ dX0_become_98 (jn := 0) rfl ?_
  refine wp_aload_n dX0_become_99 rfl rfl ?_
  refine wp_get 16 rfl fl_RX0_27 rfl ⟨by omega, by omega⟩ dX0_become_100 rfl (v := 22) (sr_16_9 (M := M) hR) ?_
  refine wp_iload_n dX0_become_103 rfl rfl ?_
  refine wp_aload_n dX0_become_104 rfl rfl ?_
  refine wp_get 2 rfl fl_RX0_27 rfl ⟨by omega, by omega⟩ dX0_become_105 rfl (v := 8) (sr_2_9 (M := M) hR) ?_
  refine wp_iload_n dX0_become_108 rfl rfl ?_
  refine wp_iald 8 rfl rfl ⟨by omega, by omega⟩ ⟨by omega, by omega⟩ dX0_become_109 (v := (M 8 0)) (rfl) ?_
  refine wp_iast 22 rfl rfl ⟨by omega, by omega⟩ ⟨by omega, by omega⟩ dX0_become_110 (jn := 0) rfl ?_
  refine wp_iinc (loc' := [(2, 16), (2, 2), (0, 1)]) dX0_become_111 rfl (by omega) rfl ?_
  refine wp_goto (tgt := 34) dX0_become_114 (by decide) ?_
  refine wp_iload_n dX0_become_34 rfl rfl ?_
  refine wp_iconst dX0_become_35 (by decide) ?_
  refine wp_icmp_ge (tgt := 117) dX0_become_36 (by decide) (fun h => absurd h (by decide)) (fun _ => ?_)
  refine wp_aload_n dX0_become_39 rfl rfl ?_
  refine wp_get 16 rfl fl_RX0_9 rfl ⟨by omega, by omega⟩ dX0_become_40 rfl (v := 17) (sr_16_4 (M := M) hR) ?_
  refine wp_iload_n dX0_become_43 rfl rfl ?_
  refine wp_aload_n dX0_become_44 rfl rfl ?_
  refine wp_get 2 rfl fl_RX0_9 rfl ⟨by omega, by omega⟩ dX0_become_45 rfl (v := 3) (sr_2_4 (M := M) hR) ?_
  refine wp_iload_n dX0_become_48 rfl rfl ?_
  refine wp_iald 3 rfl rfl ⟨by omega, by omega⟩ ⟨by omega, by omega⟩ dX0_become_49 (v := (M 3 1)) (rfl) ?_
  refine wp_iast 17 rfl rfl ⟨by omega, by omega⟩ ⟨by omega, by omega⟩ dX0_become_50 (jn := 1) rfl ?_
  refine wp_aload_n dX0_become_51 rfl rfl ?_
  refine wp_get 16 rfl fl_RX0_15 rfl ⟨by omega, by omega⟩ dX0_become_52 rfl (v := 18) (sr_16_5 (M := M) hR) ?_
  refine wp_iload_n dX0_become_55 rfl rfl ?_
  refine wp_aload_n dX0_become_56 rfl rfl ?_
  refine wp_get 2 rfl fl_RX0_15 rfl ⟨by omega, by omega⟩ dX0_become_57 rfl (v := 4) (sr_2_5 (M := M) hR) ?_
  refine wp_iload_n dX0_become_60 rfl rfl ?_
  refine wp_iald 4 rfl rfl ⟨by omega, by omega⟩ ⟨by omega, by omega⟩ dX0_become_61 (v := (M 4 1)) (rfl) ?_
  refine wp_iast 18 rfl rfl ⟨by omega, by omega⟩ ⟨by omega, by omega⟩ dX0_become_62 (jn := 1) rfl ?_
  refine wp_aload_n dX0_become_63 rfl rfl ?_
  refine wp_get 16 rfl fl_RX0_18 rfl ⟨by omega, by omega⟩ dX0_become_64 rfl (v := 19) (sr_16_6 (M := M) hR) ?_
  refine wp_iload_n dX0_become_67 rfl rfl ?_
  refine wp_aload_n dX0_become_68 rfl rfl ?_
  refine wp_get 2 rfl fl_RX0_18 rfl ⟨by omega, by omega⟩ dX0_become_69 rfl (v := 5) (sr_2_6 (M := M) hR) ?_
  refine wp_iload_n dX0_become_72 rfl rfl ?_
  refine wp_iald 5 rfl rfl ⟨by omega, by omega⟩ ⟨by omega, by omega⟩ dX0_become_73 (v := (M 5 1)) (rfl) ?_
  refine wp_iast 19 rfl rfl ⟨by omega, by omega⟩ ⟨by omega, by omega⟩ dX0_become_74 (jn := 1) rfl ?_
  refine wp_aload_n dX0_become_75 rfl rfl ?_
  refine wp_get 16 rfl fl_RX0_21 rfl ⟨by omega, by omega⟩ dX0_become_76 rfl (v := 20) (sr_16_7 (M := M) hR) ?_
  refine wp_iload_n dX0_become_79 rfl rfl ?_
  refine wp_aload_n dX0_become_80 rfl rfl ?_
  refine wp_get 2 rfl fl_RX0_21 rfl ⟨by omega, by omega⟩ dX0_become_81 rfl (v := 6) (sr_2_7 (M := M) hR) ?_
  refine wp_iload_n dX0_become_84 rfl rfl ?_
  refine wp_iald 6 rfl rfl ⟨by omega, by omega⟩ ⟨by omega, by omega⟩ dX0_become_85 (v := (M 6 1)) (rfl) ?_
  refine wp_iast 20 rfl rfl ⟨by omega, by omega⟩ ⟨by omega, by omega⟩ dX0_become_86 (jn := 1) rfl ?_
  refine wp_aload_n dX0_become_87 rfl rfl ?_
  refine wp_get 16 rfl fl_RX0_24 rfl ⟨by omega, by omega⟩ dX0_become_88 rfl (v := 21) (sr_16_8 (M := M) hR) ?_
  refine wp_iload_n dX0_become_91 rfl rfl ?_
  refine wp_aload_n dX0_become_92 rfl rfl ?_
  refine wp_get 2 rfl fl_RX0_24 rfl ⟨by omega, by omega⟩ dX0_become_93 rfl (v := 7) (sr_2_8 (M := M) hR) ?_
  refine wp_iload_n dX0_become_96 rfl rfl ?_
  refine wp_iald 7 rfl rfl ⟨by omega, by omega⟩ ⟨by omega, by omega⟩ dX0_become_97 (v := (M 7 1)) (rfl) ?_
  refine wp_iast 21 rfl rfl ⟨by omega, by omega⟩ ⟨by omega, by omega⟩ dX0_become_98 (jn := 1) rfl ?_
  refine wp_aload_n dX0_become_99 rfl rfl ?_
  refine wp_get 16 rfl fl_RX0_27 rfl ⟨by omega, by omega⟩ dX0_become_100 rfl (v := 22) (sr_16_9 (M := M) hR) ?_
  refine wp_iload_n dX0_become_103 rfl rfl ?_
  refine wp_aload_n dX0_become_104 rfl rfl ?_
  refine wp_get 2 rfl fl_RX0_27 rfl ⟨by omega, by omega⟩ dX0_become_105 rfl (v := 8) (sr_2_9 (M := M) hR) ?_
  refine wp_iload_n dX0_become_108 rfl rfl ?_
  refine wp_iald 8 rfl rfl ⟨by omega, by omega⟩ ⟨by omega, by omega⟩ dX0_become_109 (v := (M 8 1)) (rfl) ?_
  refine wp_iast 22 rfl rfl ⟨by omega, by omega⟩ ⟨by omega, by omega⟩ dX0_become_110 (jn := 1) rfl ?_
  refine wp_iinc (loc' := [(2, 16), (2, 2), (0, 2)]) dX0_become_111 rfl (by omega) rfl ?_
  refine wp_goto (tgt := 34) dX0_become_114 (by decide) ?_
  refine wp_iload_n dX0_become_34 rfl rfl ?_
  refine wp_iconst dX0_become_35 (by decide) ?_
  refine wp_icmp_ge (tgt := 117) dX0_become_36 (by decide) (fun h => absurd h (by decide)) (fun _ => ?_)
  refine wp_aload_n dX0_become_39 rfl rfl ?_
  refine wp_get 16 rfl fl_RX0_9 rfl ⟨by omega, by omega⟩ dX0_become_40 rfl (v := 17) (sr_16_4 (M := M) hR) ?_
  refine wp_iload_n dX0_become_43 rfl rfl ?_
  refine wp_aload_n dX0_become_44 rfl rfl ?_
  refine wp_get 2 rfl fl_RX0_9 rfl ⟨by omega, by omega⟩ dX0_become_45 rfl (v := 3) (sr_2_4 (M := M) hR) ?_
  refine wp_iload_n dX0_become_48 rfl rfl ?_
  refine wp_iald 3 rfl rfl ⟨by omega, by omega⟩ ⟨by omega, by omega⟩ dX0_become_49 (v := (M 3 2)) (rfl) ?_
  refine wp_iast 17 rfl rfl ⟨by omega, by omega⟩ ⟨by omega, by omega⟩ dX0_become_50 (jn := 2) rfl ?_
  refine wp_aload_n dX0_become_51 rfl rfl ?_
  refine wp_get 16 rfl fl_RX0_15 rfl ⟨by omega, by omega⟩ dX0_become_52 rfl (v := 18) (sr_16_5 (M := M) hR) ?_
  refine wp_iload_n dX0_become_55 rfl rfl ?_
  refine wp_aload_n dX0_become_56 rfl rfl ?_
  refine wp_get 2 rfl fl_RX0_15 rfl ⟨by omega, by omega⟩ dX0_become_57 rfl (v := 4) (sr_2_5 (M := M) hR) ?_
  refine wp_iload_n dX0_become_60 rfl rfl ?_
  refine wp_iald 4 rfl rfl ⟨by omega, by omega⟩ ⟨by omega, by omega⟩ dX0_become_61 (v := (M 4 2)) (rfl) ?_
  refine wp_iast 18 rfl rfl ⟨by omega, by omega⟩ ⟨by omega, by omega⟩ dX0_become_62 (jn := 2) rfl ?_
  refine wp_aload_n dX0_become_63 rfl rfl ?_
  refine wp_get 16 rfl fl_RX0_18 rfl ⟨by omega, by omega⟩ dX0_become_64 rfl (v := 19) (sr_16_6 (M := M) hR) ?_
  refine wp_iload_n dX0_become_67 rfl rfl ?_
  refine wp_aload_n dX0_become_68 rfl rfl ?_
  refine wp_get 2 rfl fl_RX0_18 rfl ⟨by omega, by omega⟩ dX0_become_69 rfl (v := 5) (sr_2_6 (M := M) hR) ?_
  refine wp_iload_n dX0_become_72 rfl rfl ?_
  refine wp_iald 5 rfl rfl ⟨by omega, by omega⟩ ⟨by omega, by omega⟩ dX0_become_73 (v := (M 5 2)) (rfl) ?_
  refine wp_iast 19 rfl rfl ⟨by omega, by omega⟩ ⟨by omega, by omega⟩ dX0_become_74 (jn := 2) rfl ?_
  refine wp_aload_n dX0_become_75 rfl rfl ?_
  refine wp_get 16 rfl fl_RX0_21 rfl ⟨by omega, by omega⟩ dX0_become_76 rfl (v := 20) (sr_16_7 (M := M) hR) ?_
  refine wp_iload_n dX0_become_79 rfl rfl ?_
  refine wp_aload_n dX0_become_80 rfl rfl ?_
  refine wp_get 2 rfl fl_RX0_21 rfl ⟨by omega, by omega⟩ dX0_become_81 rfl (v := 6) (sr_2_7 (M := M) hR) ?_
  refine wp_iload_n dX0_become_84 rfl rfl ?_
  refine wp_iald 6 rfl rfl ⟨by omega, by omega⟩ ⟨by omega, by omega⟩ dX0_become_85 (v := (M 6 2)) (rfl) ?_
  refine wp_iast 20 rfl rfl ⟨by omega, by omega⟩ ⟨by omega, by omega⟩ dX0_become_86 (jn := 2) rfl ?_
  refine wp_aload_n dX0_become_87 rfl rfl ?_
  refine wp_get 16 rfl fl_RX0_24 rfl ⟨by omega, by omega⟩ dX0_become_88 rfl (v := 21) (sr_16_8 (M := M) hR) ?_
  refine wp_iload_n dX0_become_91 rfl rfl ?_
  refine wp_aload_n dX0_become_92 rfl rfl ?_
  refine wp_get 2 rfl fl_RX0_24 rfl ⟨by omega, by omega⟩ dX0_become_93 rfl (v := 7) (sr_2_8 (M := M) hR) ?_
  refine wp_iload_n dX0_become_96 rfl rfl ?_
  refine wp_iald 7 rfl rfl ⟨by omega, by omega⟩ ⟨by omega, by omega⟩ dX0_become_97 (v := (M 7 2)) (rfl) ?_
  refine wp_iast 21 rfl rfl ⟨by omega, by omega⟩ ⟨by omega, by omega⟩ dX0_become_98 (jn := 2) rfl ?_
  refine wp_aload_n dX0_become_99 rfl rfl ?_
  refine wp_get 16 rfl fl_RX0_27 rfl ⟨by omega, by omega⟩ dX0_become_100 rfl (v := 22) (sr_16_9 (M := M) hR) ?_
  refine wp_iload_n dX0_become_103 rfl rfl ?_
  refine wp_aload_n dX0_become_104 rfl rfl ?_
  refine wp_get 2 rfl fl_RX0_27 rfl ⟨by omega, by omega⟩ dX0_become_105 rfl (v := 8) (sr_2_9 (M := M) hR) ?_
  refine wp_iload_n dX0_become_108 rfl rfl ?_
  refine wp_iald 8 rfl rfl ⟨by omega, by omega⟩ ⟨by omega, by omega⟩ dX0_become_109 (v := (M 8 2)) (rfl) ?_
  refine wp_iast 22 rfl rfl ⟨by omega, by omega⟩ ⟨by omega, by omega⟩ dX0_become_110 (jn := 2) rfl ?_
  refine wp_iinc (loc' := [(2, 16), (2, 2), (0, 3)]) dX0_become_111 rfl (by omega) rfl ?_
  refine wp_goto (tgt := 34) dX0_become_114 (by decide) ?_
  refine wp_iload_n dX0_become_34 rfl rfl ?_
  refine wp_iconst dX0_become_35 (by decide) ?_
  refine wp_icmp_ge (tgt := 117) dX0_become_36 (by decide) (fun h => absurd h (by decide)) (fun _ => ?_)
  refine wp_aload_n dX0_become_39 rfl rfl ?_
  refine wp_get 16 rfl fl_RX0_9 rfl ⟨by omega, by omega⟩ dX0_become_40 rfl (v := 17) (sr_16_4 (M := M) hR) ?_
  refine wp_iload_n dX0_become_43 rfl rfl ?_
  refine wp_aload_n dX0_become_44 rfl rfl ?_
  refine wp_get 2 rfl fl_RX0_9 rfl ⟨by omega, by omega⟩ dX0_become_45 rfl (v := 3) (sr_2_4 (M := M) hR) ?_
  refine wp_iload_n dX0_become_48 rfl rfl ?_
  refine wp_iald 3 rfl rfl ⟨by omega, by omega⟩ ⟨by omega, by omega⟩ dX0_become_49 (v := (M 3 3)) (rfl) ?_
  refine wp_iast 17 rfl rfl ⟨by omega, by omega⟩ ⟨by omega, by omega⟩ dX0_become_50 (jn := 3) rfl ?_
  refine wp_aload_n dX0_become_51 rfl rfl ?_
  refine wp_get 16 rfl fl_RX0_15 rfl ⟨by omega, by omega⟩ dX0_become_52 rfl (v := 18) (sr_16_5 (M := M) hR) ?_
  refine wp_iload_n dX0_become_55 rfl rfl ?_
  refine wp_aload_n dX0_become_56 rfl rfl ?_
  refine wp_get 2 rfl fl_RX0_15 rfl ⟨by omega, by omega⟩ dX0_become_57 rfl (v := 4) (sr_2_5 (M := M) hR) ?_
  refine wp_iload_n dX0_become_60 rfl rfl ?_
  refine wp_iald 4 rfl rfl ⟨by omega, by omega⟩ ⟨by omega, by omega⟩ dX0_become_61 (v := (M 4 3)) (rfl) ?_
  refine wp_iast 18 rfl rfl ⟨by omega, by omega⟩ ⟨by omega, by omega⟩ dX0_become_62 (jn := 3) rfl ?_
  refine wp_aload_n dX0_become_63 rfl rfl ?_
  refine wp_get 16 rfl fl_RX0_18 rfl ⟨by omega, by omega⟩ dX0_become_64 rfl (v := 19) (sr_16_6 (M := M) hR) ?_
  refine wp_iload_n dX0_become_67 rfl rfl ?_
  refine wp_aload_n dX0_become_68 rfl rfl ?_
  refine wp_get 2 rfl fl_RX0_18 rfl ⟨by omega, by omega⟩ dX0_become_69 rfl (v := 5) (sr_2_6 (M := M) hR) ?_
  refine wp_iload_n dX0_become_72 rfl rfl ?_
  refine wp_iald 5 rfl rfl ⟨by omega, by omega⟩ ⟨by omega, by omega⟩ dX0_become_73 (v := (M 5 3)) (rfl) ?_
  refine wp_iast 19 rfl rfl ⟨by omega, by omega⟩ ⟨by omega, by omega⟩ dX0_become_74 (jn := 3) rfl ?_
  refine wp_aload_n dX0_become_75 rfl rfl ?_
  refine wp_get 16 rfl fl_RX0_21 rfl ⟨by omega, by omega⟩ dX0_become_76 rfl (v := 20) (sr_16_7 (M := M) hR) ?_
  refine wp_iload_n dX0_become_79 rfl rfl ?_
  refine wp_aload_n dX0_become_80 rfl rfl ?_
  refine wp_get 2 rfl fl_RX0_21 rfl ⟨by omega, by omega⟩ dX0_become_81 rfl (v := 6) (sr_2_7 (M := M) hR) ?_
  refine wp_iload_n dX0_become_84 rfl rfl ?_
  refine wp_iald 6 rfl rfl ⟨by omega, by omega⟩ ⟨by omega, by omega⟩ dX0_become_85 (v := (M 6 3)) (rfl) ?_
  refine wp_iast 20 rfl rfl ⟨by omega, by omega⟩ ⟨by omega, by omega⟩ dX0_become_86 (jn := 3) rfl ?_
  refine wp_aload_n dX0_become_87 rfl rfl ?_
  refine wp_get 16 rfl fl_RX0_24 rfl ⟨by omega, by omega⟩ dX0_become_88 rfl (v := 21) (sr_16_8 (M := M) hR) ?_
  refine wp_iload_n dX0_become_91 rfl rfl ?_
  refine wp_aload_n dX0_become_92 rfl rfl ?_
  refine wp_get 2 rfl fl_RX0_24 rfl ⟨by omega, by omega⟩ dX0_become_93 rfl (v := 7) (sr_2_8 (M := M) hR) ?_
  refine wp_iload_n dX0_become_96 rfl rfl ?_
  refine wp_iald 7 rfl rfl ⟨by omega, by omega⟩ ⟨by omega, by omega⟩ dX0_become_97 (v := (M 7 3)) (rfl) ?_
  refine wp_iast 21 rfl rfl ⟨by omega, by omega⟩ ⟨by omega, by omega⟩ dX0_become_98 (jn := 3) rfl ?_
  refine wp_aload_n dX0_become_99 rfl rfl ?_
  refine wp_get 16 rfl fl_RX0_27 rfl ⟨by omega, by omega⟩ dX0_become_100 rfl (v := 22) (sr_16_9 (M := M) hR) ?_
  refine wp_iload_n dX0_become_103 rfl rfl ?_
  refine wp_aload_n dX0_become_104 rfl rfl ?_
  refine wp_get 2 rfl fl_RX0_27 rfl ⟨by omega, by omega⟩ dX0_become_105 rfl (v := 8) (sr_2_9 (M := M) hR) ?_
  refine wp_iload_n dX0_become_108 rfl rfl ?_
  refine wp_iald 8 rfl rfl ⟨by omega, by omega⟩ ⟨by omega, by omega⟩ dX0_become_109 (v := (M 8 3)) (rfl) ?_
  refine wp_iast 22 rfl rfl ⟨by omega, by omega⟩ ⟨by omega, by omega⟩ dX0_become_110 (jn := 3) rfl ?_
  refine wp_iinc (loc' := [(2, 16), (2, 2), (0, 4)]) dX0_become_111 rfl (by omega) rfl ?_
  refine wp_goto (tgt := 34) dX0_become_114 (by decide) ?_
  refine wp_iload_n dX0_become_34 rfl rfl ?_
  refine wp_iconst dX0_become_35 (by decide) ?_
  refine wp_icmp_ge (tgt := 117) dX0_become_36 (by decide) (fun h => absurd h (by decide)) (fun _ => ?_)
  refine wp_aload_n dX0_become_39 rfl rfl ?_
  refine wp_get 16 rfl fl_RX0_9 rfl ⟨by omega, by omega⟩ dX0_become_40 rfl (v := 17) (sr_16_4 (M := M) hR) ?_
  refine wp_iload_n dX0_become_43 rfl rfl ?_
  refine wp_aload_n dX0_become_44 rfl rfl ?_
  refine wp_get 2 rfl fl_RX0_9 rfl ⟨by omega, by omega⟩ dX0_become_45 rfl (v := 3) (sr_2_4 (M := M) hR) ?_
  refine wp_iload_n dX0_become_48 rfl rfl ?_
  refine wp_iald 3 rfl rfl ⟨by omega, by omega⟩ ⟨by omega, by omega⟩ dX0_become_49 (v := (M 3 4)) (rfl) ?_
  refine wp_iast 17 rfl rfl ⟨by omega, by omega⟩ ⟨by omega, by omega⟩ dX0_become_50 (jn := 4) rfl ?_
  refine wp_aload_n dX0_become_51 rfl rfl ?_
  refine wp_get 16 rfl fl_RX0_15 rfl ⟨by omega, by omega⟩ dX0_become_52 rfl (v := 18) (sr_16_5 (M := M) hR) ?_
  refine wp_iload_n dX0_become_55 rfl rfl ?_
  refine wp_aload_n dX0_become_56 rfl rfl ?_
  refine wp_get 2 rfl fl_RX0_15 rfl ⟨by omega, by omega⟩ dX0_become_57 rfl (v := 4) (sr_2_5 (M := M) hR) ?_
  refine wp_iload_n dX0_become_60 rfl rfl ?_
  refine wp_iald 4 rfl rfl ⟨by omega, by omega⟩ ⟨by omega, by omega⟩ dX0_become_61 (v := (M 4 4)) (rfl) ?_
  refine wp_iast 18 rfl rfl ⟨by omega, by omega⟩ ⟨by omega, by omega⟩ dX0_become_62 (jn := 4) rfl ?_
  refine wp_aload_n dX0_become_63 rfl rfl ?_
  refine wp_get 16 rfl fl_RX0_18 rfl ⟨by omega, by omega⟩ dX0_become_64 rfl (v := 19) (sr_16_6 (M := M) hR) ?_
  refine wp_iload_n dX0_become_67 rfl rfl ?_
  refine wp_aload_n dX0_become_68 rfl rfl ?_
  refine wp_get 2 rfl fl_RX0_18 rfl ⟨by omega, by omega⟩ dX0_become_69 rfl (v := 5) (sr_2_6 (M := M) hR) ?_
  refine wp_iload_n dX0_become_72 rfl rfl ?_
  refine wp_iald 5 rfl rfl ⟨by omega, by omega⟩ ⟨by omega, by omega⟩ dX0_become_73 (v := (M 5 4)) (rfl) ?_
  refine wp_iast 19 rfl rfl ⟨by omega, by omega⟩ ⟨by omega, by omega⟩ dX0_become_74 (jn := 4) rfl ?_
  refine wp_aload_n dX0_become_75 rfl rfl ?_
  refine wp_get 16 rfl fl_RX0_21 rfl ⟨by omega, by omega⟩ dX0_become_76 rfl (v := 20) (sr_16_7 (M := M) hR) ?_
  refine wp_iload_n dX0_become_79 rfl rfl ?_
  refine wp_aload_n dX0_become_80 rfl rfl ?_
  refine wp_get 2 rfl fl_RX0_21 rfl ⟨by omega, by omega⟩ dX0_become_81 rfl (v := 6) (sr_2_7 (M := M) hR) ?_
  refine wp_iload_n dX0_become_84 rfl rfl ?_
  refine wp_iald 6 rfl rfl ⟨by omega, by omega⟩ ⟨by omega, by omega⟩ dX0_become_85 (v := (M 6 4)) (rfl) ?_
  refine wp_iast 20 rfl rfl ⟨by omega, by omega⟩ ⟨by omega, by omega⟩ dX0_become_86 (jn := 4) rfl ?_
  refine wp_aload_n dX0_become_87 rfl rfl ?_
  refine wp_get 16 rfl fl_RX0_24 rfl ⟨by omega, by omega⟩ dX0_become_88 rfl (v := 21) (sr_16_8 (M := M) hR) ?_
  refine wp_iload_n dX0_become_91 rfl rfl ?_
  refine wp_aload_n dX0_become_92 rfl rfl ?_
  refine wp_get 2 rfl fl_RX0_24 rfl ⟨by omega, by omega⟩ dX0_become_93 rfl (v := 7) (sr_2_8 (M := M) hR) ?_
  refine wp_iload_n dX0_become_96 rfl rfl ?_
  refine wp_iald 7 rfl rfl ⟨by omega, by omega⟩ ⟨by omega, by omega⟩ dX0_become_97 (v := (M 7 4)) (rfl) ?_
  refine wp_iast 21 rfl rfl ⟨by omega, by omega⟩ ⟨by omega, by omega⟩ dX0_become_98 (jn := 4) rfl ?_
  refine wp_aload_n dX0_become_99 rfl rfl ?_
  refine wp_get 16 rfl fl_RX0_27 rfl ⟨by omega, by omega⟩ dX0_become_100 rfl (v := 22) (sr_16_9 (M := M) hR) ?_
  refine wp_iload_n dX0_become_103 rfl rfl ?_
  refine wp_aload_n dX0_become_104 rfl rfl ?_
  refine wp_get 2 rfl fl_RX0_27 rfl ⟨by omega, by omega⟩ dX0_become_105 rfl (v := 8) (sr_2_9 (M := M) hR) ?_
  refine wp_iload_n dX0_become_108 rfl rfl ?_
  refine wp_iald 8 rfl rfl ⟨by omega, by omega⟩ ⟨by omega, by omega⟩ dX0_become_109 (v := (M 8 4)) (rfl) ?_
  refine wp_iast 22 rfl rfl ⟨by omega, by omega⟩ ⟨by omega, by omega⟩ dX0_become_110 (jn := 4) rfl ?_
  refine wp_iinc (loc' := [(2, 16), (2, 2), (0, 5)]) dX0_become_111 rfl (by omega) rfl ?_
  refine wp_goto (tgt := 34) dX0_become_114 (by decide) ?_
  refine wp_iload_n dX0_become_34 rfl rfl ?_
  refine wp_iconst dX0_become_35 (by decide) ?_
  refine wp_icmp_ge (tgt := 117) dX0_become_36 (by decide) (fun _ => ?_) (fun h => absurd h (by decide))
  refine wp_vret rfl dX0_become_117 ?_
  exact k
def becM_9_2 (M : Mm) : Mm := (mu (mu (mu (mu (mu (mu (mu (mu (mu (mu (mu (mu (mu (mu (mu (mu (mu (mu (mu (mu (mu (mu (mu (mu (mu (mu (mu (mu (mu (mu (mu (mu (mu (mu M 9 0 (M 2 0)) 9 1 (M 2 1)) 9 2 (M 2 2)) 9 3 (M 2 3)) 10 0 (M 3 0)) 11 0 (M 4 0)) 12 0 (M 5 0)) 13 0 (M 6 0)) 14 0 (M 7 0)) 15 0 (M 8 0)) 10 1 (M 3 1)) 11 1 (M 4 1)) 12 1 (M 5 1)) 13 1 (M 6 1)) 14 1 (M 7 1)) 15 1 (M 8 1)) 10 2 (M 3 2)) 11 2 (M 4 2)) 12 2 (M 5 2)) 13 2 (M 6 2)) 14 2 (M 7 2)) 15 2 (M 8 2)) 10 3 (M 3 3)) 11 3 (M 4 3)) 12 3 (M 5 3)) 13 3 (M 6 3)) 14 3 (M 7 3)) 15 3 (M 8 3)) 10 4 (M 3 4)) 11 4 (M 4 4)) 12 4 (M 5 4)) 13 4 (M 6 4)) 14 4 (M 7 4)) 15 4 (M 8 4))
set_option maxRecDepth 20000 in
set_option maxHeartbeats 4000000 in
theorem sp_become_9_2 {l : Launch} {g : Gw} {d n : Nat} {M : Mm} {Q : Option Wd → Mm → Prop} (hn : 60 ≤ n) (hR : SR M) (k : Q none (becM_9_2 M)) : Wp l g d 0 0 n m_X0_become 0 [] [(2, 9), (2, 2), (9, 0)] M Q := by
  refine wp_aload_n dX0_become_0 rfl rfl ?_
  refine wp_aload_n dX0_become_1 rfl rfl ?_
  refine wp_get 2 rfl fl_RX0_34 rfl ⟨by omega, by omega⟩ dX0_become_2 rfl (v := (M 2 0)) (rfl) ?_
  refine wp_puti 9 rfl fl_RX0_34 rfl ⟨by omega, by omega⟩ dX0_become_5 rfl rfl ?_
  refine wp_aload_n dX0_become_8 rfl rfl ?_
  refine wp_aload_n dX0_become_9 rfl rfl ?_
  refine wp_get 2 rfl fl_RX0_37 rfl ⟨by omega, by omega⟩ dX0_become_10 rfl (v := (M 2 1)) (rfl) ?_
  refine wp_puti 9 rfl fl_RX0_37 rfl ⟨by omega, by omega⟩ dX0_become_13 rfl rfl ?_
  refine wp_aload_n dX0_become_16 rfl rfl ?_
  refine wp_aload_n dX0_become_17 rfl rfl ?_
  refine wp_get 2 rfl fl_RX0_30 rfl ⟨by omega, by omega⟩ dX0_become_18 rfl (v := (M 2 2)) (rfl) ?_
  refine wp_puti 9 rfl fl_RX0_30 rfl ⟨by omega, by omega⟩ dX0_become_21 rfl rfl ?_
  refine wp_aload_n dX0_become_24 rfl rfl ?_
  refine wp_aload_n dX0_become_25 rfl rfl ?_
  refine wp_get 2 rfl fl_RX0_40 rfl ⟨by omega, by omega⟩ dX0_become_26 rfl (v := (M 2 3)) (rfl) ?_
  refine wp_puti 9 rfl fl_RX0_40 rfl ⟨by omega, by omega⟩ dX0_become_29 rfl rfl ?_
  refine wp_iconst dX0_become_32 (by decide) ?_
  refine wp_istore_n (loc' := [(2, 9), (2, 2), (0, 0)]) dX0_become_33 rfl (Nat.le_of_ble_eq_true rfl) rfl ?_
  refine wp_iload_n dX0_become_34 rfl rfl ?_
  refine wp_iconst dX0_become_35 (by decide) ?_
  refine wp_icmp_ge (tgt := 117) dX0_become_36 (by decide) (fun h => absurd h (by decide)) (fun _ => ?_)
  refine wp_aload_n dX0_become_39 rfl rfl ?_
  refine wp_get 9 rfl fl_RX0_9 rfl ⟨by omega, by omega⟩ dX0_become_40 rfl (v := 10) (sr_9_4 (M := M) hR) ?_
  refine wp_iload_n dX0_become_43 rfl rfl ?_
  refine wp_aload_n dX0_become_44 rfl rfl ?_
  refine wp_get 2 rfl fl_RX0_9 rfl ⟨by omega, by omega⟩ dX0_become_45 rfl (v := 3) (sr_2_4 (M := M) hR) ?_
  refine wp_iload_n dX0_become_48 rfl rfl ?_
  refine wp_iald 3 rfl rfl ⟨by omega, by omega⟩ ⟨by omega, by omega⟩ dX0_become_49 (v := (M 3 0)) (rfl) ?_
  refine wp_iast 10 rfl rfl ⟨by omega, by omega⟩ ⟨by omega, by omega⟩ dX0_become_50 (jn := 0) rfl ?_
  refine wp_aload_n dX0_become_51 rfl rfl ?_
  refine wp_get 9 rfl fl_RX0_15 rfl ⟨by omega, by omega⟩ dX0_become_52 rfl (v := 11) (sr_9_5 (M := M) hR) ?_
  refine wp_iload_n dX0_become_55 rfl rfl ?_
  refine wp_aload_n dX0_become_56 rfl rfl ?_
  refine wp_get 2 rfl fl_RX0_15 rfl ⟨by omega, by omega⟩ dX0_become_57 rfl (v := 4) (sr_2_5 (M := M) hR) ?_
  refine wp_iload_n dX0_become_60 rfl rfl ?_
  refine wp_iald 4 rfl rfl ⟨by omega, by omega⟩ ⟨by omega, by omega⟩ dX0_become_61 (v := (M 4 0)) (rfl) ?_
  refine wp_iast 11 rfl rfl ⟨by omega, by omega⟩ ⟨by omega, by omega⟩ dX0_become_62 (jn := 0) rfl ?_
  refine wp_aload_n dX0_become_63 rfl rfl ?_
  refine wp_get 9 rfl fl_RX0_18 rfl ⟨by omega, by omega⟩ dX0_become_64 rfl (v := 12) (sr_9_6 (M := M) hR) ?_
  refine wp_iload_n dX0_become_67 rfl rfl ?_
  refine wp_aload_n dX0_become_68 rfl rfl ?_
  refine wp_get 2 rfl fl_RX0_18 rfl ⟨by omega, by omega⟩ dX0_become_69 rfl (v := 5) (sr_2_6 (M := M) hR) ?_
  refine wp_iload_n dX0_become_72 rfl rfl ?_
  refine wp_iald 5 rfl rfl ⟨by omega, by omega⟩ ⟨by omega, by omega⟩ dX0_become_73 (v := (M 5 0)) (rfl) ?_
  refine wp_iast 12 rfl rfl ⟨by omega, by omega⟩ ⟨by omega, by omega⟩ dX0_become_74 (jn := 0) rfl ?_
  refine wp_aload_n dX0_become_75 rfl rfl ?_
  refine wp_get 9 rfl fl_RX0_21 rfl ⟨by omega, by omega⟩ dX0_become_76 rfl (v := 13) (sr_9_7 (M := M) hR) ?_
  refine wp_iload_n dX0_become_79 rfl rfl ?_
  refine wp_aload_n dX0_become_80 rfl rfl ?_
  refine wp_get 2 rfl fl_RX0_21 rfl ⟨by omega, by omega⟩ dX0_become_81 rfl (v := 6) (sr_2_7 (M := M) hR) ?_
  refine wp_iload_n dX0_become_84 rfl rfl ?_
  refine wp_iald 6 rfl rfl ⟨by omega, by omega⟩ ⟨by omega, by omega⟩ dX0_become_85 (v := (M 6 0)) (rfl) ?_
  refine wp_iast 13 rfl rfl ⟨by omega, by omega⟩ ⟨by omega, by omega⟩ dX0_become_86 (jn := 0) rfl ?_
  refine wp_aload_n dX0_become_87 rfl rfl ?_
  refine wp_get 9 rfl fl_RX0_24 rfl ⟨by omega, by omega⟩ dX0_become_88 rfl (v := 14) (sr_9_8 (M := M) hR) ?_
  refine wp_iload_n dX0_become_91 rfl rfl ?_
  refine wp_aload_n dX0_become_92 rfl rfl ?_
  refine wp_get 2 rfl fl_RX0_24 rfl ⟨by omega, by omega⟩ dX0_become_93 rfl (v := 7) (sr_2_8 (M := M) hR) ?_
  refine wp_iload_n dX0_become_96 rfl rfl ?_
  refine wp_iald 7 rfl rfl ⟨by omega, by omega⟩ ⟨by omega, by omega⟩ dX0_become_97 (v := (M 7 0)) (rfl) ?_
  refine wp_iast 14 rfl rfl ⟨by omega, by omega⟩ ⟨by omega, by omega⟩ dX0_become_98 (jn := 0) rfl ?_
  refine wp_aload_n dX0_become_99 rfl rfl ?_
  refine wp_get 9 rfl fl_RX0_27 rfl ⟨by omega, by omega⟩ dX0_become_100 rfl (v := 15) (sr_9_9 (M := M) hR) ?_
  refine wp_iload_n dX0_become_103 rfl rfl ?_
  refine wp_aload_n dX0_become_104 rfl rfl ?_
  refine wp_get 2 rfl fl_RX0_27 rfl ⟨by omega, by omega⟩ dX0_become_105 rfl (v := 8) (sr_2_9 (M := M) hR) ?_
  refine wp_iload_n dX0_become_108 rfl rfl ?_
  refine wp_iald 8 rfl rfl ⟨by omega, by omega⟩ ⟨by omega, by omega⟩ dX0_become_109 (v := (M 8 0)) (rfl) ?_
  refine wp_iast 15 rfl rfl ⟨by omega, by omega⟩ ⟨by omega, by omega⟩ dX0_become_110 (jn := 0) rfl ?_
  refine wp_iinc (loc' := [(2, 9), (2, 2), (0, 1)]) dX0_become_111 rfl (by omega) rfl ?_
  refine wp_goto (tgt := 34) dX0_become_114 (by decide) ?_
  refine wp_iload_n dX0_become_34 rfl rfl ?_
  refine wp_iconst dX0_become_35 (by decide) ?_
  refine wp_icmp_ge (tgt := 117) dX0_become_36 (by decide) (fun h => absurd h (by decide)) (fun _ => ?_)
  refine wp_aload_n dX0_become_39 rfl rfl ?_
  refine wp_get 9 rfl fl_RX0_9 rfl ⟨by omega, by omega⟩ dX0_become_40 rfl (v := 10) (sr_9_4 (M := M) hR) ?_
  refine wp_iload_n dX0_become_43 rfl rfl ?_
  refine wp_aload_n dX0_become_44 rfl rfl ?_
  refine wp_get 2 rfl fl_RX0_9 rfl ⟨by omega, by omega⟩ dX0_become_45 rfl (v := 3) (sr_2_4 (M := M) hR) ?_
  refine wp_iload_n dX0_become_48 rfl rfl ?_
  refine wp_iald 3 rfl rfl ⟨by omega, by omega⟩ ⟨by omega, by omega⟩ dX0_become_49 (v := (M 3 1)) (rfl) ?_
  refine wp_iast 10 rfl rfl ⟨by omega, by omega⟩ ⟨by omega, by omega⟩ dX0_become_50 (jn := 1) rfl ?_
  refine wp_aload_n dX0_become_51 rfl rfl ?_
  refine wp_get 9 rfl fl_RX0_15 rfl ⟨by omega, by omega⟩ dX0_become_52 rfl (v := 11) (sr_9_5 (M := M) hR) ?_
  refine wp_iload_n dX0_become_55 rfl rfl ?_
  refine wp_aload_n dX0_become_56 rfl rfl ?_
  refine wp_get 2 rfl fl_RX0_15 rfl ⟨by omega, by omega⟩ dX0_become_57 rfl (v := 4) (sr_2_5 (M := M) hR) ?_
  refine wp_iload_n dX0_become_60 rfl rfl ?_
  refine wp_iald 4 rfl rfl ⟨by omega, by omega⟩ ⟨by omega, by omega⟩ dX0_become_61 (v := (M 4 1)) (rfl) ?_
  refine wp_iast 11 rfl rfl ⟨by omega, by omega⟩ ⟨by omega, by omega⟩ dX0_become_62 (jn := 1) rfl ?_
  refine wp_aload_n dX0_become_63 rfl rfl ?_
  refine wp_get 9 rfl fl_RX0_18 rfl ⟨by omega, by omega⟩ dX0_become_64 rfl (v := 12) (sr_9_6 (M := M) hR) ?_
  refine wp_iload_n dX0_become_67 rfl rfl ?_
  refine wp_aload_n dX0_become_68 rfl rfl ?_
  refine wp_get 2 rfl fl_RX0_18 rfl ⟨by omega, by omega⟩ dX0_become_69 rfl (v := 5) (sr_2_6 (M := M) hR) ?_
  refine wp_iload_n dX0_become_72 rfl rfl ?_
  refine wp_iald 5 rfl rfl ⟨by omega, by omega⟩ ⟨by omega, by omega⟩ dX0_become_73 (v := (M 5 1)) (rfl) ?_
  refine wp_iast 12 rfl rfl ⟨by omega, by omega⟩ ⟨by omega, by omega⟩ dX0_become_74 (jn := 1) rfl ?_
  refine wp_aload_n dX0_become_75 rfl rfl ?_
  refine wp_get 9 rfl fl_RX0_21 rfl ⟨by omega, by omega⟩ dX0_become_76 rfl (v := 13) (sr_9_7 (M := M) hR) ?_
  refine wp_iload_n dX0_become_79 rfl rfl ?_
  refine wp_aload_n dX0_become_80 rfl rfl ?_
  refine wp_get 2 rfl fl_RX0_21 rfl ⟨by omega, by omega⟩ dX0_become_81 rfl (v := 6) (sr_2_7 (M := M) hR) ?_
  refine wp_iload_n dX0_become_84 rfl rfl ?_
  refine wp_iald 6 rfl rfl ⟨by omega, by omega⟩ ⟨by omega, by omega⟩ dX0_become_85 (v := (M 6 1)) (rfl) ?_
  refine wp_iast 13 rfl rfl ⟨by omega, by omega⟩ ⟨by omega, by omega⟩ dX0_become_86 (jn := 1) rfl ?_
  refine wp_aload_n dX0_become_87 rfl rfl ?_
  refine wp_get 9 rfl fl_RX0_24 rfl ⟨by omega, by omega⟩ dX0_become_88 rfl (v := 14) (sr_9_8 (M := M) hR) ?_
  refine wp_iload_n dX0_become_91 rfl rfl ?_
  refine wp_aload_n dX0_become_92 rfl rfl ?_
  refine wp_get 2 rfl fl_RX0_24 rfl ⟨by omega, by omega⟩ dX0_become_93 rfl (v := 7) (sr_2_8 (M := M) hR) ?_
  refine wp_iload_n dX0_become_96 rfl rfl ?_
  refine wp_iald 7 rfl rfl ⟨by omega, by omega⟩ ⟨by omega, by omega⟩ dX0_become_97 (v := (M 7 1)) (rfl) ?_
  refine wp_iast 14 rfl rfl ⟨by omega, by omega⟩ ⟨by omega, by omega⟩ dX0_become_98 (jn := 1) rfl ?_
  refine wp_aload_n dX0_become_99 rfl rfl ?_
  refine wp_get 9 rfl fl_RX0_27 rfl ⟨by omega, by omega⟩ dX0_become_100 rfl (v := 15) (sr_9_9 (M := M) hR) ?_
  refine wp_iload_n dX0_become_103 rfl rfl ?_
  refine wp_aload_n dX0_become_104 rfl rfl ?_
  refine wp_get 2 rfl fl_RX0_27 rfl ⟨by omega, by omega⟩ dX0_become_105 rfl (v := 8) (sr_2_9 (M := M) hR) ?_
  refine wp_iload_n dX0_become_108 rfl rfl ?_
  refine wp_iald 8 rfl rfl ⟨by omega, by omega⟩ ⟨by omega, by omega⟩ dX0_become_109 (v := (M 8 1)) (rfl) ?_
  refine wp_iast 15 rfl rfl ⟨by omega, by omega⟩ ⟨by omega, by omega⟩ dX0_become_110 (jn := 1) rfl ?_
  refine wp_iinc (loc' := [(2, 9), (2, 2), (0, 2)]) dX0_become_111 rfl (by omega) rfl ?_
  refine wp_goto (tgt := 34) dX0_become_114 (by decide) ?_
  refine wp_iload_n dX0_become_34 rfl rfl ?_
  refine wp_iconst dX0_become_35 (by decide) ?_
  refine wp_icmp_ge (tgt := 117) dX0_become_36 (by decide) (fun h => absurd h (by decide)) (fun _ => ?_)
  refine wp_aload_n dX0_become_39 rfl rfl ?_
  refine wp_get 9 rfl fl_RX0_9 rfl ⟨by omega, by omega⟩ dX0_become_40 rfl (v := 10) (sr_9_4 (M := M) hR) ?_
  refine wp_iload_n dX0_become_43 rfl rfl ?_
  refine wp_aload_n dX0_become_44 rfl rfl ?_
  refine wp_get 2 rfl fl_RX0_9 rfl ⟨by omega, by omega⟩ dX0_become_45 rfl (v := 3) (sr_2_4 (M := M) hR) ?_
  refine wp_iload_n dX0_become_48 rfl rfl ?_
  refine wp_iald 3 rfl rfl ⟨by omega, by omega⟩ ⟨by omega, by omega⟩ dX0_become_49 (v := (M 3 2)) (rfl) ?_
  refine wp_iast 10 rfl rfl ⟨by omega, by omega⟩ ⟨by omega, by omega⟩ dX0_become_50 (jn := 2) rfl ?_
  refine wp_aload_n dX0_become_51 rfl rfl ?_
  refine wp_get 9 rfl fl_RX0_15 rfl ⟨by omega, by omega⟩ dX0_become_52 rfl (v := 11) (sr_9_5 (M := M) hR) ?_
  refine wp_iload_n dX0_become_55 rfl rfl ?_
  refine wp_aload_n dX0_become_56 rfl rfl ?_
  refine wp_get 2 rfl fl_RX0_15 rfl ⟨by omega, by omega⟩ dX0_become_57 rfl (v := 4) (sr_2_5 (M := M) hR) ?_
  refine wp_iload_n dX0_become_60 rfl rfl ?_
  refine wp_iald 4 rfl rfl ⟨by omega, by omega⟩ ⟨by omega, by omega⟩ dX0_become_61 (v := (M 4 2)) (rfl) ?_
  refine wp_iast 11 rfl rfl ⟨by omega, by omega⟩ ⟨by omega, by omega⟩ dX0_become_62 (jn := 2) rfl ?_
  refine wp_aload_n dX0_become_63 rfl rfl ?_
  refine wp_get 9 rfl fl_RX0_18 rfl ⟨by omega, by omega⟩ dX0_become_64 rfl (v := 12) (sr_9_6 (M := M) hR) ?_
  refine wp_iload_n dX0_become_67 rfl rfl ?_
  refine wp_aload_n dX0_become_68 rfl rfl ?_
  refine wp_get 2 rfl fl_RX0_18 rfl ⟨by omega, by omega⟩ dX0_become_69 rfl (v := 5) (sr_2_6 (M := M) hR) ?_
  refine wp_iload_n dX0_become_72 rfl rfl ?_
  refine wp_iald 5 rfl rfl ⟨by omega, by omega⟩ ⟨by omega, by omega⟩ dX0_become_73 (v := (M 5 2)) (rfl) ?_
  refine wp_iast 12 rfl rfl ⟨by omega, by omega⟩ ⟨by omega, by omega⟩ dX0_become_74 (jn := 2) rfl ?_
  refine wp_aload_n dX0_become_75 rfl rfl ?_
  refine wp_get 9 rfl fl_RX0_21 rfl ⟨by omega, by omega⟩ dX0_become_76 rfl (v := 13) (sr_9_7 (M := M) hR) ?_
  refine wp_iload_n dX0_become_79 rfl rfl ?_
  refine wp_aload_n dX0_become_80 rfl rfl ?_
  refine wp_get 2 rfl fl_RX0_21 rfl ⟨by omega, by omega⟩ dX0_become_81 rfl (v := 6) (sr_2_7 (M := M) hR) ?_
  refine wp_iload_n dX0_become_84 rfl rfl ?_
  refine wp_iald 6 rfl rfl ⟨by omega, by omega⟩ ⟨by omega, by omega⟩ dX0_become_85 (v := (M 6 2)) (rfl) ?_
  refine wp_iast 13 rfl rfl ⟨by omega, by omega⟩ ⟨by omega, by omega⟩ dX0_become_86 (jn := 2) rfl ?_
  refine wp_aload_n dX0_become_87 rfl rfl ?_
  refine wp_get 9 rfl fl_RX0_24 rfl ⟨by omega, by omega⟩ dX0_become_88 rfl (v := 14) (sr_9_8 (M := M) hR) ?_
  refine wp_iload_n dX0_become_91 rfl rfl ?_
  refine wp_aload_n dX0_become_92 rfl rfl ?_
  refine wp_get 2 rfl fl_RX0_24 rfl ⟨by omega, by omega⟩ dX0_become_93 rfl (v := 7) (sr_2_8 (M := M) hR) ?_
  refine wp_iload_n dX0_become_96 rfl rfl ?_
  refine wp_iald 7 rfl rfl ⟨by omega, by omega⟩ ⟨by omega, by omega⟩ dX0_become_97 (v := (M 7 2)) (rfl) ?_
  refine wp_iast 14 rfl rfl ⟨by omega, by omega⟩ ⟨by omega, by omega⟩ dX0_become_98 (jn := 2) rfl ?_
  refine wp_aload_n dX0_become_99 rfl rfl ?_
  refine wp_get 9 rfl fl_RX0_27 rfl ⟨by omega, by omega⟩ dX0_become_100 rfl (v := 15) (sr_9_9 (M := M) hR) ?_
  refine wp_iload_n dX0_become_103 rfl rfl ?_
  refine wp_aload_n dX0_become_104 rfl rfl ?_
  refine wp_get 2 rfl fl_RX0_27 rfl ⟨by omega, by omega⟩ dX0_become_105 rfl (v := 8) (sr_2_9 (M := M) hR) ?_
  refine wp_iload_n dX0_become_108 rfl rfl ?_
  refine wp_iald 8 rfl rfl ⟨by omega, by omega⟩ ⟨by omega, by omega⟩ dX0_become_109 (v := (M 8 2)) (rfl) ?_
  refine wp_iast 15 rfl rfl ⟨by omega, by omega⟩ ⟨by omega, by omega⟩ dX0_become_110 (jn := 2) rfl ?_
  refine wp_iinc (loc' := [(2, 9), (2, 2), (0, 3)]) dX0_become_111 rfl (by omega) rfl ?_
  refine wp_goto (tgt := 34) dX0_become_114 (by decide) ?_
  refine wp_iload_n dX0_become_34 rfl rfl ?_
  refine wp_iconst dX0_become_35 (by decide) ?_
  refine wp_icmp_ge (tgt := 117) dX0_become_36 (by decide) (fun h => absurd h (by decide)) (fun _ => ?_)
  refine wp_aload_n dX0_become_39 rfl rfl ?_
  refine wp_get 9 rfl fl_RX0_9 rfl ⟨by omega, by omega⟩ dX0_become_40 rfl (v := 10) (sr_9_4 (M := M) hR) ?_
  refine wp_iload_n dX0_become_43 rfl rfl ?_
  refine wp_aload_n dX0_become_44 rfl rfl ?_
  refine wp_get 2 rfl fl_RX0_9 rfl ⟨by omega, by omega⟩ dX0_become_45 rfl (v := 3) (sr_2_4 (M := M) hR) ?_
  refine wp_iload_n dX0_become_48 rfl rfl ?_
  refine wp_iald 3 rfl rfl ⟨by omega, by omega⟩ ⟨by omega, by omega⟩ dX0_become_49 (v := (M 3 3)) (rfl) ?_
  refine wp_iast 10 rfl rfl ⟨by omega, by omega⟩ ⟨by omega, by omega⟩ dX0_become_50 (jn := 3) rfl ?_
  refine wp_aload_n dX0_become_51 rfl rfl ?_
  refine wp_get 9 rfl fl_RX0_15 rfl ⟨by omega, by omega⟩ dX0_become_52 rfl (v := 11) (sr_9_5 (M := M) hR) ?_
  refine wp_iload_n dX0_become_55 rfl rfl ?_
  refine wp_aload_n dX0_become_56 rfl rfl ?_
  refine wp_get 2 rfl fl_RX0_15 rfl ⟨by omega, by omega⟩ dX0_become_57 rfl (v := 4) (sr_2_5 (M := M) hR) ?_
  refine wp_iload_n dX0_become_60 rfl rfl ?_
  refine wp_iald 4 rfl rfl ⟨by omega, by omega⟩ ⟨by omega, by omega⟩ dX0_become_61 (v := (M 4 3)) (rfl) ?_
  refine wp_iast 11 rfl rfl ⟨by omega, by omega⟩ ⟨by omega, by omega⟩ dX0_become_62 (jn := 3) rfl ?_
  refine wp_aload_n dX0_become_63 rfl rfl ?_
  refine wp_get 9 rfl fl_RX0_18 rfl ⟨by omega, by omega⟩ dX0_become_64 rfl (v := 12) (sr_9_6 (M := M) hR) ?_
  refine wp_iload_n dX0_become_67 rfl rfl ?_
  refine wp_aload_n dX0_become_68 rfl rfl ?_
  refine wp_get 2 rfl fl_RX0_18 rfl ⟨by omega, by omega⟩ dX0_become_69 rfl (v := 5) (sr_2_6 (M := M) hR) ?_
  refine wp_iload_n dX0_become_72 rfl rfl ?_
  refine wp_iald 5 rfl rfl ⟨by omega, by omega⟩ ⟨by omega, by omega⟩ dX0_become_73 (v := (M 5 3)) (rfl) ?_
  refine wp_iast 12 rfl rfl ⟨by omega, by omega⟩ ⟨by omega, by omega⟩ dX0_become_74 (jn := 3) rfl ?_
  refine wp_aload_n dX0_become_75 rfl rfl ?_
  refine wp_get 9 rfl fl_RX0_21 rfl ⟨by omega, by omega⟩ dX0_become_76 rfl (v := 13) (sr_9_7 (M := M) hR) ?_
  refine wp_iload_n dX0_become_79 rfl rfl ?_
  refine wp_aload_n dX0_become_80 rfl rfl ?_
  refine wp_get 2 rfl fl_RX0_21 rfl ⟨by omega, by omega⟩ dX0_become_81 rfl (v := 6) (sr_2_7 (M := M) hR) ?_
  refine wp_iload_n dX0_become_84 rfl rfl ?_
  refine wp_iald 6 rfl rfl ⟨by omega, by omega⟩ ⟨by omega, by omega⟩ dX0_become_85 (v := (M 6 3)) (rfl) ?_
  refine wp_iast 13 rfl rfl ⟨by omega, by omega⟩ ⟨by omega, by omega⟩ dX0_become_86 (jn := 3) rfl ?_
  refine wp_aload_n dX0_become_87 rfl rfl ?_
  refine wp_get 9 rfl fl_RX0_24 rfl ⟨by omega, by omega⟩ dX0_become_88 rfl (v := 14) (sr_9_8 (M := M) hR) ?_
  refine wp_iload_n dX0_become_91 rfl rfl ?_
  refine wp_aload_n dX0_become_92 rfl rfl ?_
  refine wp_get 2 rfl fl_RX0_24 rfl ⟨by omega, by omega⟩ dX0_become_93 rfl (v := 7) (sr_2_8 (M := M) hR) ?_
  refine wp_iload_n dX0_become_96 rfl rfl ?_
  refine wp_iald 7 rfl rfl ⟨by omega, by omega⟩ ⟨by omega, by omega⟩ dX0_become_97 (v := (M 7 3)) (rfl) ?_
  refine wp_iast 14 rfl rfl ⟨by omega, by omega⟩ ⟨by omega, by omega⟩ dX0_become_98 (jn := 3) rfl ?_
  refine wp_aload_n dX0_become_99 rfl rfl ?_
  refine wp_get 9 rfl fl_RX0_27 rfl ⟨by omega, by omega⟩ dX0_become_100 rfl (v := 15) (sr_9_9 (M := M) hR) ?_
  refine wp_iload_n dX0_become_103 rfl rfl ?_
  refine wp_aload_n dX0_become_104 rfl rfl ?_
  refine wp_get 2 rfl fl_RX0_27 rfl ⟨by omega, by omega⟩ dX0_become_105 rfl (v := 8) (sr_2_9 (M := M) hR) ?_
  refine wp_iload_n dX0_become_108 rfl rfl ?_
  refine wp_iald 8 rfl rfl ⟨by omega, by omega⟩ ⟨by omega, by omega⟩ dX0_become_109 (v := (M 8 3)) (rfl) ?_
  refine wp_iast 15 rfl rfl ⟨by omega, by omega⟩ ⟨by omega, by omega⟩ dX0_become_110 (jn := 3) rfl ?_
  refine wp_iinc (loc' := [(2, 9), (2, 2), (0, 4)]) dX0_become_111 rfl (by omega) rfl ?_
  refine wp_goto (tgt := 34) dX0_become_114 (by decide) ?_
  refine wp_iload_n dX0_become_34 rfl rfl ?_
  refine wp_iconst dX0_become_35 (by decide) ?_
  refine wp_icmp_ge (tgt := 117) dX0_become_36 (by decide) (fun h => absurd h (by decide)) (fun _ => ?_)
  refine wp_aload_n dX0_become_39 rfl rfl ?_
  refine wp_get 9 rfl fl_RX0_9 rfl ⟨by omega, by omega⟩ dX0_become_40 rfl (v := 10) (sr_9_4 (M := M) hR) ?_
  refine wp_iload_n dX0_become_43 rfl rfl ?_
  refine wp_aload_n dX0_become_44 rfl rfl ?_
  refine wp_get 2 rfl fl_RX0_9 rfl ⟨by omega, by omega⟩ dX0_become_45 rfl (v := 3) (sr_2_4 (M := M) hR) ?_
  refine wp_iload_n dX0_become_48 rfl rfl ?_
  refine wp_iald 3 rfl rfl ⟨by omega, by omega⟩ ⟨by omega, by omega⟩ dX0_become_49 (v := (M 3 4)) (rfl) ?_
  refine wp_iast 10 rfl rfl ⟨by omega, by omega⟩ ⟨by omega, by omega⟩ dX0_become_50 (jn := 4) rfl ?_
  refine wp_aload_n dX0_become_51 rfl rfl ?_
  refine wp_get 9 rfl fl_RX0_15 rfl ⟨by omega, by omega⟩ dX0_become_52 rfl (v := 11) (sr_9_5 (M := M) hR) ?_
  refine wp_iload_n dX0_become_55 rfl rfl ?_
  refine wp_aload_n dX0_become_56 rfl rfl ?_
  refine wp_get 2 rfl fl_RX0_15 rfl ⟨by omega, by omega⟩ dX0_become_57 rfl (v := 4) (sr_2_5 (M := M) hR) ?_
  refine wp_iload_n dX0_become_60 rfl rfl ?_
  refine wp_iald 4 rfl rfl ⟨by omega, by omega⟩ ⟨by omega, by omega⟩ dX0_become_61 (v := (M 4 4)) (rfl) ?_
  refine wp_iast 11 rfl rfl ⟨by omega, by omega⟩ ⟨by omega, by omega⟩ dX0_become_62 (jn := 4) rfl ?_
  refine wp_aload_n dX0_become_63 rfl rfl ?_
  refine wp_get 9 rfl fl_RX0_18 rfl ⟨by omega, by omega⟩ dX0_become_64 rfl (v := 12) (sr_9_6 (M := M) hR) ?_
  refine wp_iload_n dX0_become_67 rfl rfl ?_
  refine wp_aload_n dX0_become_68 rfl rfl ?_
  refine wp_get 2 rfl fl_RX0_18 rfl ⟨by omega, by omega⟩ dX0_become_69 rfl (v := 5) (sr_2_6 (M := M) hR) ?_
  refine wp_iload_n dX0_become_72 rfl rfl ?_
  refine wp_iald 5 rfl rfl ⟨by omega, by omega⟩ ⟨by omega, by omega⟩ dX0_become_73 (v := (M 5 4)) (rfl) ?_
  refine wp_iast 12 rfl rfl ⟨by omega, by omega⟩ ⟨by omega, by omega⟩ dX0_become_74 (jn := 4) rfl ?_
  refine wp_aload_n dX0_become_75 rfl rfl ?_
  refine wp_get 9 rfl fl_RX0_21 rfl ⟨by omega, by omega⟩ dX0_become_76 rfl (v := 13) (sr_9_7 (M := M) hR) ?_
  refine wp_iload_n dX0_become_79 rfl rfl ?_
  refine wp_aload_n dX0_become_80 rfl rfl ?_
  refine wp_get 2 rfl fl_RX0_21 rfl ⟨by omega, by omega⟩ dX0_become_81 rfl (v := 6) (sr_2_7 (M := M) hR) ?_
  refine wp_iload_n dX0_become_84 rfl rfl ?_
  refine wp_iald 6 rfl rfl ⟨by omega, by omega⟩ ⟨by omega, by omega⟩ dX0_become_85 (v := (M 6 4)) (rfl) ?_
  refine wp_iast 13 rfl rfl ⟨by omega, by omega⟩ ⟨by omega, by omega⟩ dX0_become_86 (jn := 4) rfl ?_
  refine wp_aload_n dX0_become_87 rfl rfl ?_
  refine wp_get 9 rfl fl_RX0_24 rfl ⟨by omega, by omega⟩ dX0_become_88 rfl (v := 14) (sr_9_8 (M := M) hR) ?_
  refine wp_iload_n dX0_become_91 rfl rfl ?_
  refine wp_aload_n dX0_become_92 rfl rfl ?_
  refine wp_get 2 rfl fl_RX0_24 rfl ⟨by omega, by omega⟩ dX0_become_93 rfl (v := 7) (sr_2_8 (M := M) hR) ?_
  refine wp_iload_n dX0_become_96 rfl rfl ?_
  refine wp_iald 7 rfl rfl ⟨by omega, by omega⟩ ⟨by omega, by omega⟩ dX0_become_97 (v := (M 7 4)) (rfl) ?_
  refine wp_iast 14 rfl rfl ⟨by omega, by omega⟩ ⟨by omega, by omega⟩ dX0_become_98 (jn := 4) rfl ?_
  refine wp_aload_n dX0_become_99 rfl rfl ?_
  refine wp_get 9 rfl fl_RX0_27 rfl ⟨by omega, by omega⟩ dX0_become_100 rfl (v := 15) (sr_9_9 (M := M) hR) ?_
  refine wp_iload_n dX0_become_103 rfl rfl ?_
  refine wp_aload_n dX0_become_104 rfl rfl ?_
  refine wp_get 2 rfl fl_RX0_27 rfl ⟨by omega, by omega⟩ dX0_become_105 rfl (v := 8) (sr_2_9 (M := M) hR) ?_
  refine wp_iload_n dX0_become_108 rfl rfl ?_
  refine wp_iald 8 rfl rfl ⟨by omega, by omega⟩ ⟨by omega, by omega⟩ dX0_become_109 (v := (M 8 4)) (rfl) ?_
  refine wp_iast 15 rfl rfl ⟨by omega, by omega⟩ ⟨by omega, by omega⟩ dX0_become_110 (jn := 4) rfl ?_
  refine wp_iinc (loc' := [(2, 9), (2, 2), (0, 5)]) dX0_become_111 rfl (by omega) rfl ?_
  refine wp_goto (tgt := 34) dX0_become_114 (by decide) ?_
  refine wp_iload_n dX0_become_34 rfl rfl ?_
  refine wp_iconst dX0_become_35 (by decide) ?_
  refine wp_icmp_ge (tgt := 117) dX0_become_36 (by decide) (fun _ => ?_) (fun h => absurd h (by decide))
  refine wp_vret rfl dX0_become_117 ?_
  exact k
def becM_2_9 (M : Mm) : Mm := (mu (mu (mu (mu (mu (mu (mu (mu (mu (mu (mu (mu (mu (mu (mu (mu (mu (mu (mu (mu (mu (mu (mu (mu (mu (mu (mu (mu (mu (mu (mu (mu (mu (mu M 2 0 (M 9 0)) 2 1 (M 9 1)) 2 2 (M 9 2)) 2 3 (M 9 3)) 3 0 (M 10 0)) 4 0 (M 11 0)) 5 0 (M 12 0)) 6 0 (M 13 0)) 7 0 (M 14 0)) 8 0 (M 15 0)) 3 1 (M 10 1)) 4 1 (M 11 1)) 5 1 (M 12 1)) 6 1 (M 13 1)) 7 1 (M 14 1)) 8 1 (M 15 1)) 3 2 (M 10 2)) 4 2 (M 11 2)) 5 2 (M 12 2)) 6 2 (M 13 2)) 7 2 (M 14 2)) 8 2 (M 15 2)) 3 3 (M 10 3)) 4 3 (M 11 3)) 5 3 (M 12 3)) 6 3 (M 13 3)) 7 3 (M 14 3)) 8 3 (M 15 3)) 3 4 (M 10 4)) 4 4 (M 11 4)) 5 4 (M 12 4)) 6 4 (M 13 4)) 7 4 (M 14 4)) 8 4 (M 15 4))
set_option maxRecDepth 20000 in
set_option maxHeartbeats 4000000 in
theorem sp_become_2_9 {l : Launch} {g : Gw} {d n : Nat} {M : Mm} {Q : Option Wd → Mm → Prop} (hn : 60 ≤ n) (hR : SR M) (k : Q none (becM_2_9 M)) : Wp l g d 0 0 n m_X0_become 0 [] [(2, 2), (2, 9), (9, 0)] M Q := by
  refine wp_aload_n dX0_become_0 rfl rfl ?_
  refine wp_aload_n dX0_become_1 rfl rfl ?_
  refine wp_get 9 rfl fl_RX0_34 rfl ⟨by omega, by omega⟩ dX0_become_2 rfl (v := (M 9 0)) (rfl) ?_
  refine wp_puti 2 rfl fl_RX0_34 rfl ⟨by omega, by omega⟩ dX0_become_5 rfl rfl ?_
  refine wp_aload_n dX0_become_8 rfl rfl ?_
  refine wp_aload_n dX0_become_9 rfl rfl ?_
  refine wp_get 9 rfl fl_RX0_37 rfl ⟨by omega, by omega⟩ dX0_become_10 rfl (v := (M 9 1)) (rfl) ?_
  refine wp_puti 2 rfl fl_RX0_37 rfl ⟨by omega, by omega⟩ dX0_become_13 rfl rfl ?_
  refine wp_aload_n dX0_become_16 rfl rfl ?_
  refine wp_aload_n dX0_become_17 rfl rfl ?_
  refine wp_get 9 rfl fl_RX0_30 rfl ⟨by omega, by omega⟩ dX0_become_18 rfl (v := (M 9 2)) (rfl) ?_
  refine wp_puti 2 rfl fl_RX0_30 rfl ⟨by omega, by omega⟩ dX0_become_21 rfl rfl ?_
  refine wp_aload_n dX0_become_24 rfl rfl ?_
  refine wp_aload_n dX0_become_25 rfl rfl ?_
  refine wp_get 9 rfl fl_RX0_40 rfl ⟨by omega, by omega⟩ dX0_become_26 rfl (v := (M 9 3)) (rfl) ?_
  refine wp_puti 2 rfl fl_RX0_40 rfl ⟨by omega, by omega⟩ dX0_become_29 rfl rfl ?_
  refine wp_iconst dX0_become_32 (by decide) ?_
  refine wp_istore_n (loc' := [(2, 2), (2, 9), (0, 0)]) dX0_become_33 rfl (Nat.le_of_ble_eq_true rfl) rfl ?_
  refine wp_iload_n dX0_become_34 rfl rfl ?_
  refine wp_iconst dX0_become_35 (by decide) ?_
  refine wp_icmp_ge (tgt := 117) dX0_become_36 (by decide) (fun h => absurd h (by decide)) (fun _ => ?_)
  refine wp_aload_n dX0_become_39 rfl rfl ?_
  refine wp_get 2 rfl fl_RX0_9 rfl ⟨by omega, by omega⟩ dX0_become_40 rfl (v := 3) (sr_2_4 (M := M) hR) ?_
  refine wp_iload_n dX0_become_43 rfl rfl ?_
  refine wp_aload_n dX0_become_44 rfl rfl ?_
  refine wp_get 9 rfl fl_RX0_9 rfl ⟨by omega, by omega⟩ dX0_become_45 rfl (v := 10) (sr_9_4 (M := M) hR) ?_
  refine wp_iload_n dX0_become_48 rfl rfl ?_
  refine wp_iald 10 rfl rfl ⟨by omega, by omega⟩ ⟨by omega, by omega⟩ dX0_become_49 (v := (M 10 0)) (rfl) ?_
  refine wp_iast 3 rfl rfl ⟨by omega, by omega⟩ ⟨by omega, by omega⟩ dX0_become_50 (jn := 0) rfl ?_
  refine wp_aload_n dX0_become_51 rfl rfl ?_
  refine wp_get 2 rfl fl_RX0_15 rfl ⟨by omega, by omega⟩ dX0_become_52 rfl (v := 4) (sr_2_5 (M := M) hR) ?_
  refine wp_iload_n dX0_become_55 rfl rfl ?_
  refine wp_aload_n dX0_become_56 rfl rfl ?_
  refine wp_get 9 rfl fl_RX0_15 rfl ⟨by omega, by omega⟩ dX0_become_57 rfl (v := 11) (sr_9_5 (M := M) hR) ?_
  refine wp_iload_n dX0_become_60 rfl rfl ?_
  refine wp_iald 11 rfl rfl ⟨by omega, by omega⟩ ⟨by omega, by omega⟩ dX0_become_61 (v := (M 11 0)) (rfl) ?_
  refine wp_iast 4 rfl rfl ⟨by omega, by omega⟩ ⟨by omega, by omega⟩ dX0_become_62 (jn := 0) rfl ?_
  refine wp_aload_n dX0_become_63 rfl rfl ?_
  refine wp_get 2 rfl fl_RX0_18 rfl ⟨by omega, by omega⟩ dX0_become_64 rfl (v := 5) (sr_2_6 (M := M) hR) ?_
  refine wp_iload_n dX0_become_67 rfl rfl ?_
  refine wp_aload_n dX0_become_68 rfl rfl ?_
  refine wp_get 9 rfl fl_RX0_18 rfl ⟨by omega, by omega⟩ dX0_become_69 rfl (v := 12) (sr_9_6 (M := M) hR) ?_
  refine wp_iload_n dX0_become_72 rfl rfl ?_
  refine wp_iald 12 rfl rfl ⟨by omega, by omega⟩ ⟨by omega, by omega⟩ dX0_become_73 (v := (M 12 0)) (rfl) ?_
  refine wp_iast 5 rfl rfl ⟨by omega, by omega⟩ ⟨by omega, by omega⟩ dX0_become_74 (jn := 0) rfl ?_
  refine wp_aload_n dX0_become_75 rfl rfl ?_
  refine wp_get 2 rfl fl_RX0_21 rfl ⟨by omega, by omega⟩ dX0_become_76 rfl (v := 6) (sr_2_7 (M := M) hR) ?_
  refine wp_iload_n dX0_become_79 rfl rfl ?_
  refine wp_aload_n dX0_become_80 rfl rfl ?_
  refine wp_get 9 rfl fl_RX0_21 rfl ⟨by omega, by omega⟩ dX0_become_81 rfl (v := 13) (sr_9_7 (M := M) hR) ?_
  refine wp_iload_n dX0_become_84 rfl rfl ?_
  refine wp_iald 13 rfl rfl ⟨by omega, by omega⟩ ⟨by omega, by omega⟩ dX0_become_85 (v := (M 13 0)) (rfl) ?_
  refine wp_iast 6 rfl rfl ⟨by omega, by omega⟩ ⟨by omega, by omega⟩ dX0_become_86 (jn := 0) rfl ?_
  refine wp_aload_n dX0_become_87 rfl rfl ?_
  refine wp_get 2 rfl fl_RX0_24 rfl ⟨by omega, by omega⟩ dX0_become_88 rfl (v := 7) (sr_2_8 (M := M) hR) ?_
  refine wp_iload_n dX0_become_91 rfl rfl ?_
  refine wp_aload_n dX0_become_92 rfl rfl ?_
  refine wp_get 9 rfl fl_RX0_24 rfl ⟨by omega, by omega⟩ dX0_become_93 rfl (v := 14) (sr_9_8 (M := M) hR) ?_
  refine wp_iload_n dX0_become_96 rfl rfl ?_
  refine wp_iald 14 rfl rfl ⟨by omega, by omega⟩ ⟨by omega, by omega⟩ dX0_become_97 (v := (M 14 0)) (rfl) ?_
  refine wp_iast 7 rfl rfl ⟨by omega, by omega⟩ ⟨by omega, by omega⟩ dX0_become_98 (jn := 0) rfl ?_
  refine wp_aload_n dX0_become_99 rfl rfl ?_
  refine wp_get 2 rfl fl_RX0_27 rfl ⟨by omega, by omega⟩ dX0_become_100 rfl (v := 8) (sr_2_9 (M := M) hR) ?_
  refine wp_iload_n dX0_become_103 rfl rfl ?_
  refine wp_aload_n dX0_become_104 rfl rfl ?_
  refine wp_get 9 rfl fl_RX0_27 rfl ⟨by omega, by omega⟩ dX0_become_105 rfl (v := 15) (sr_9_9 (M := M) hR) ?_
  refine wp_iload_n dX0_become_108 rfl rfl ?_
  refine wp_iald 15 rfl rfl ⟨by omega, by omega⟩ ⟨by omega, by omega⟩ dX0_become_109 (v := (M 15 0)) (rfl) ?_
  refine wp_iast 8 rfl rfl ⟨by omega, by omega⟩ ⟨by omega, by omega⟩ dX0_become_110 (jn := 0) rfl ?_
  refine wp_iinc (loc' := [(2, 2), (2, 9), (0, 1)]) dX0_become_111 rfl (by omega) rfl ?_
  refine wp_goto (tgt := 34) dX0_become_114 (by decide) ?_
  refine wp_iload_n dX0_become_34 rfl rfl ?_
  refine wp_iconst dX0_become_35 (by decide) ?_
  refine wp_icmp_ge (tgt := 117) dX0_become_36 (by decide) (fun h => absurd h (by decide)) (fun _ => ?_)
  refine wp_aload_n dX0_become_39 rfl rfl ?_
  refine wp_get 2 rfl fl_RX0_9 rfl ⟨by omega, by omega⟩ dX0_become_40 rfl (v := 3) (sr_2_4 (M := M) hR) ?_
  refine wp_iload_n dX0_become_43 rfl rfl ?_
  refine wp_aload_n dX0_become_44 rfl rfl ?_
  refine wp_get 9 rfl fl_RX0_9 rfl ⟨by omega, by omega⟩ dX0_become_45 rfl (v := 10) (sr_9_4 (M := M) hR) ?_
  refine wp_iload_n dX0_become_48 rfl rfl ?_
  refine wp_iald 10 rfl rfl ⟨by omega, by omega⟩ ⟨by omega, by omega⟩ dX0_become_49 (v := (M 10 1)) (rfl) ?_
  refine wp_iast 3 rfl rfl ⟨by omega, by omega⟩ ⟨by omega, by omega⟩ dX0_become_50 (jn := 1) rfl ?_
  refine wp_aload_n dX0_become_51 rfl rfl ?_
  refine wp_get 2 rfl fl_RX0_15 rfl ⟨by omega, by omega⟩ dX0_become_52 rfl (v := 4) (sr_2_5 (M := M) hR) ?_
  refine wp_iload_n dX0_become_55 rfl rfl ?_
  refine wp_aload_n dX0_become_56 rfl rfl ?_
  refine wp_get 9 rfl fl_RX0_15 rfl ⟨by omega, by omega⟩ dX0_become_57 rfl (v := 11) (sr_9_5 (M := M) hR) ?_
  refine wp_iload_n dX0_become_60 rfl rfl ?_
  refine wp_iald 11 rfl rfl ⟨by omega, by omega⟩ ⟨by omega, by omega⟩ dX0_become_61 (v := (M 11 1)) (rfl) ?_
  refine wp_iast 4 rfl rfl ⟨by omega, by omega⟩ ⟨by omega, by omega⟩ dX0_become_62 (jn := 1) rfl ?_
  refine wp_aload_n dX0_become_63 rfl rfl ?_
  refine wp_get 2 rfl fl_RX0_18 rfl ⟨by omega, by omega⟩ dX0_become_64 rfl (v := 5) (sr_2_6 (M := M) hR) ?_
  refine wp_iload_n dX0_become_67 rfl rfl ?_
  refine wp_aload_n dX0_become_68 rfl rfl ?_
  refine wp_get 9 rfl fl_RX0_18 rfl ⟨by omega, by omega⟩ dX0_become_69 rfl (v := 12) (sr_9_6 (M := M) hR) ?_
  refine wp_iload_n dX0_become_72 rfl rfl ?_
  refine wp_iald 12 rfl rfl ⟨by omega, by omega⟩ ⟨by omega, by omega⟩ dX0_become_73 (v := (M 12 1)) (rfl) ?_
  refine wp_iast 5 rfl rfl ⟨by omega, by omega⟩ ⟨by omega, by omega⟩ dX0_become_74 (jn := 1) rfl ?_
  refine wp_aload_n dX0_become_75 rfl rfl ?_
  refine wp_get 2 rfl fl_RX0_21 rfl ⟨by omega, by omega⟩ dX0_become_76 rfl (v := 6) (sr_2_7 (M := M) hR) ?_
  refine wp_iload_n dX0_become_79 rfl rfl ?_
  refine wp_aload_n dX0_become_80 rfl rfl ?_
  refine wp_get 9 rfl fl_RX0_21 rfl ⟨by omega, by omega⟩ dX0_become_81 rfl (v := 13) (sr_9_7 (M := M) hR) ?_
  refine wp_iload_n dX0_become_84 rfl rfl ?_
  refine wp_iald 13 rfl rfl ⟨by omega, by omega⟩ ⟨by omega, by omega⟩ dX0_become_85 (v := (M 13 1)) (rfl) ?_
  refine wp_iast 6 rfl rfl ⟨by omega, by omega⟩ ⟨by omega, by omega⟩ dX0_become_86 (jn := 1) rfl ?_
  refine wp_aload_n dX0_become_87 rfl rfl ?_
  refine wp_get 2 rfl fl_RX0_24 rfl ⟨by omega, by omega⟩ dX0_become_88 rfl (v := 7) (sr_2_8 (M := M) hR) ?_
  refine wp_iload_n dX0_become_91 rfl rfl ?_
  refine wp_aload_n dX0_become_92 rfl rfl ?_
  refine wp_get 9 rfl fl_RX0_24 rfl ⟨by omega, by omega⟩ dX0_become_93 rfl (v := 14) (sr_9_8 (M := M) hR) ?_
  refine wp_iload_n dX0_become_96 rfl rfl ?_
  refine wp_iald 14 rfl rfl ⟨by omega, by omega⟩ ⟨by omega, by omega⟩ dX0_become_97 (v := (M 14 1)) (rfl) ?_
  refine wp_iast 7 rfl rfl ⟨by omega, by omega⟩ ⟨by omega, by omega⟩ dX0_become_98 (jn := 1) rfl ?_
  refine wp_aload_n dX0_become_99 rfl rfl ?_
  refine wp_get 2 rfl fl_RX0_27 rfl ⟨by omega, by omega⟩ dX0_become_100 rfl (v := 8) (sr_2_9 (M := M) hR) ?_
  refine wp_iload_n dX0_become_103 rfl rfl ?_
  refine wp_aload_n dX0_become_104 rfl rfl ?_
  refine wp_get 9 rfl fl_RX0_27 rfl ⟨by omega, by omega⟩ dX0_become_105 rfl (v := 15) (sr_9_9 (M := M) hR) ?_
  refine wp_iload_n dX0_become_108 rfl rfl ?_
  refine wp_iald 15 rfl rfl ⟨by omega, by omega⟩ ⟨by omega, by omega⟩ dX0_become_109 (v := (M 15 1)) (rfl) ?_
  refine wp_iast 8 rfl rfl ⟨by omega, by omega⟩ ⟨by omega, by omega⟩ dX0_become_110 (jn := 1) rfl ?_
  refine wp_iinc (loc' := [(2, 2), (2, 9), (0, 2)]) dX0_become_111 rfl (by omega) rfl ?_
  refine wp_goto (tgt := 34) dX0_become_114 (by decide) ?_
  refine wp_iload_n dX0_become_34 rfl rfl ?_
  refine wp_iconst dX0_become_35 (by decide) ?_
  refine wp_icmp_ge (tgt := 117) dX0_become_36 (by decide) (fun h => absurd h (by decide)) (fun _ => ?_)
  refine wp_aload_n dX0_become_39 rfl rfl ?_
  refine wp_get 2 rfl fl_RX0_9 rfl ⟨by omega, by omega⟩ dX0_become_40 rfl (v := 3) (sr_2_4 (M := M) hR) ?_
  refine wp_iload_n dX0_become_43 rfl rfl ?_
  refine wp_aload_n dX0_become_44 rfl rfl ?_
  refine wp_get 9 rfl fl_RX0_9 rfl ⟨by omega, by omega⟩ dX0_become_45 rfl (v := 10) (sr_9_4 (M := M) hR) ?_
  refine wp_iload_n dX0_become_48 rfl rfl ?_
  refine wp_iald 10 rfl rfl ⟨by omega, by omega⟩ ⟨by omega, by omega⟩ dX0_become_49 (v := (M 10 2)) (rfl) ?_
  refine wp_iast 3 rfl rfl ⟨by omega, by omega⟩ ⟨by omega, by omega⟩ dX0_become_50 (jn := 2) rfl ?_
  refine wp_aload_n dX0_become_51 rfl rfl ?_
  refine wp_get 2 rfl fl_RX0_15 rfl ⟨by omega, by omega⟩ dX0_become_52 rfl (v := 4) (sr_2_5 (M := M) hR) ?_
  refine wp_iload_n dX0_become_55 rfl rfl ?_
  refine wp_aload_n dX0_become_56 rfl rfl ?_
  refine wp_get 9 rfl fl_RX0_15 rfl ⟨by omega, by omega⟩ dX0_become_57 rfl (v := 11) (sr_9_5 (M := M) hR) ?_
  refine wp_iload_n dX0_become_60 rfl rfl ?_
  refine wp_iald 11 rfl rfl ⟨by omega, by omega⟩ ⟨by omega, by omega⟩ dX0_become_61 (v := (M 11 2)) (rfl) ?_
  refine wp_iast 4 rfl rfl ⟨by omega, by omega⟩ ⟨by omega, by omega⟩ dX0_become_62 (jn := 2) rfl ?_
  refine wp_aload_n dX0_become_63 rfl rfl ?_
  refine wp_get 2 rfl fl_RX0_18 rfl ⟨by omega, by omega⟩ dX0_become_64 rfl (v := 5) (sr_2_6 (M := M) hR) ?_
  refine wp_iload_n dX0_become_67 rfl rfl ?_
  refine wp_aload_n dX0_become_68 rfl rfl ?_
  refine wp_get 9 rfl fl_RX0_18 rfl ⟨by omega, by omega⟩ dX0_become_69 rfl (v := 12) (sr_9_6 (M := M) hR) ?_
  refine wp_iload_n dX0_become_72 rfl rfl ?_
  refine wp_iald 12 rfl rfl ⟨by omega, by omega⟩ ⟨by omega, by omega⟩ dX0_become_73 (v := (M 12 2)) (rfl) ?_
  refine wp_iast 5 rfl rfl ⟨by omega, by omega⟩ ⟨by omega, by omega⟩ dX0_become_74 (jn := 2) rfl ?_
  refine wp_aload_n dX0_become_75 rfl rfl ?_
  refine wp_get 2 rfl fl_RX0_21 rfl ⟨by omega, by omega⟩ dX0_become_76 rfl (v := 6) (sr_2_7 (M := M) hR) ?_
  refine wp_iload_n dX0_become_79 rfl rfl ?_
  refine wp_aload_n dX0_become_80 rfl rfl ?_
  refine wp_get 9 rfl fl_RX0_21 rfl ⟨by omega, by omega⟩ dX0_become_81 rfl (v := 13) (sr_9_7 (M := M) hR) ?_
  refine wp_iload_n dX0_become_84 rfl rfl ?_
  refine wp_iald 13 rfl rfl ⟨by omega, by omega⟩ ⟨by omega, by omega⟩ dX0_become_85 (v := (M 13 2)) (rfl) ?_
  refine wp_iast 6 rfl rfl ⟨by omega, by omega⟩ ⟨by omega, by omega⟩ dX0_become_86 (jn := 2) rfl ?_
  refine wp_aload_n dX0_become_87 rfl rfl ?_
  refine wp_get 2 rfl fl_RX0_24 rfl ⟨by omega, by omega⟩ dX0_become_88 rfl (v := 7) (sr_2_8 (M := M) hR) ?_
  refine wp_iload_n dX0_become_91 rfl rfl ?_
  refine wp_aload_n dX0_become_92 rfl rfl ?_
  refine wp_get 9 rfl fl_RX0_24 rfl ⟨by omega, by omega⟩ dX0_become_93 rfl (v := 14) (sr_9_8 (M := M) hR) ?_
  refine wp_iload_n dX0_become_96 rfl rfl ?_
  refine wp_iald 14 rfl rfl ⟨by omega, by omega⟩ ⟨by omega, by omega⟩ dX0_become_97 (v := (M 14 2)) (rfl) ?_
  refine wp_iast 7 rfl rfl ⟨by omega, by omega⟩ ⟨by omega, by omega⟩ dX0_become_98 (jn := 2) rfl ?_
  refine wp_aload_n dX0_become_99 rfl rfl ?_
  refine wp_get 2 rfl fl_RX0_27 rfl ⟨by omega, by omega⟩ dX0_become_100 rfl (v := 8) (sr_2_9 (M := M) hR) ?_
  refine wp_iload_n dX0_become_103 rfl rfl ?_
  refine wp_aload_n dX0_become_104 rfl rfl ?_
  refine wp_get 9 rfl fl_RX0_27 rfl ⟨by omega, by omega⟩ dX0_become_105 rfl (v := 15) (sr_9_9 (M := M) hR) ?_
  refine wp_iload_n dX0_become_108 rfl rfl ?_
  refine wp_iald 15 rfl rfl ⟨by omega, by omega⟩ ⟨by omega, by omega⟩ dX0_become_109 (v := (M 15 2)) (rfl) ?_
  refine wp_iast 8 rfl rfl ⟨by omega, by omega⟩ ⟨by omega, by omega⟩ dX0_become_110 (jn := 2) rfl ?_
  refine wp_iinc (loc' := [(2, 2), (2, 9), (0, 3)]) dX0_become_111 rfl (by omega) rfl ?_
  refine wp_goto (tgt := 34) dX0_become_114 (by decide) ?_
  refine wp_iload_n dX0_become_34 rfl rfl ?_
  refine wp_iconst dX0_become_35 (by decide) ?_
  refine wp_icmp_ge (tgt := 117) dX0_become_36 (by decide) (fun h => absurd h (by decide)) (fun _ => ?_)
  refine wp_aload_n dX0_become_39 rfl rfl ?_
  refine wp_get 2 rfl fl_RX0_9 rfl ⟨by omega, by omega⟩ dX0_become_40 rfl (v := 3) (sr_2_4 (M := M) hR) ?_
  refine wp_iload_n dX0_become_43 rfl rfl ?_
  refine wp_aload_n dX0_become_44 rfl rfl ?_
  refine wp_get 9 rfl fl_RX0_9 rfl ⟨by omega, by omega⟩ dX0_become_45 rfl (v := 10) (sr_9_4 (M := M) hR) ?_
  refine wp_iload_n dX0_become_48 rfl rfl ?_
  refine wp_iald 10 rfl rfl ⟨by omega, by omega⟩ ⟨by omega, by omega⟩ dX0_become_49 (v := (M 10 3)) (rfl) ?_
  refine wp_iast 3 rfl rfl ⟨by omega, by omega⟩ ⟨by omega, by omega⟩ dX0_become_50 (jn := 3) rfl ?_
  refine wp_aload_n dX0_become_51 rfl rfl ?_
  refine wp_get 2 rfl fl_RX0_15 rfl ⟨by omega, by omega⟩ dX0_become_52 rfl (v := 4) (sr_2_5 (M := M) hR) ?_
  refine wp_iload_n dX0_become_55 rfl rfl ?_
  refine wp_aload_n dX0_become_56 rfl rfl ?_
  refine wp_get 9 rfl fl_RX0_15 rfl ⟨by omega, by omega⟩ dX0_become_57 rfl (v := 11) (sr_9_5 (M := M) hR) ?_
  refine wp_iload_n dX0_become_60 rfl rfl ?_
  refine wp_iald 11 rfl rfl ⟨by omega, by omega⟩ ⟨by omega, by omega⟩ dX0_become_61 (v := (M 11 3)) (rfl) ?_
  refine wp_iast 4 rfl rfl ⟨by omega, by omega⟩ ⟨by omega, by omega⟩ dX0_become_62 (jn := 3) rfl ?_
  refine wp_aload_n dX0_become_63 rfl rfl ?_
  refine wp_get 2 rfl fl_RX0_18 rfl ⟨by omega, by omega⟩ dX0_become_64 rfl (v := 5) (sr_2_6 (M := M) hR) ?_
  refine wp_iload_n dX0_become_67 rfl rfl ?_
  refine wp_aload_n dX0_become_68 rfl rfl ?_
  refine wp_get 9 rfl fl_RX0_18 rfl ⟨by omega, by omega⟩ dX0_become_69 rfl (v := 12) (sr_9_6 (M := M) hR) ?_
  refine wp_iload_n dX0_become_72 rfl rfl ?_
  refine wp_iald 12 rfl rfl ⟨by omega, by omega⟩ ⟨by omega, by omega⟩ dX0_become_73 (v := (M 12 3)) (rfl) ?_
  refine wp_iast 5 rfl rfl ⟨by omega, by omega⟩ ⟨by omega, by omega⟩ dX0_become_74 (jn := 3) rfl ?_
  refine wp_aload_n dX0_become_75 rfl rfl ?_
  refine wp_get 2 rfl fl_RX0_21 rfl ⟨by omega, by omega⟩ dX0_become_76 rfl (v := 6) (sr_2_7 (M := M) hR) ?_
  refine wp_iload_n dX0_become_79 rfl rfl ?_
  refine wp_aload_n dX0_become_80 rfl rfl ?_
  refine wp_get 9 rfl fl_RX0_21 rfl ⟨by omega, by omega⟩ dX0_become_81 rfl (v := 13) (sr_9_7 (M := M) hR) ?_
  refine wp_iload_n dX0_become_84 rfl rfl ?_
  refine wp_iald 13 rfl rfl ⟨by omega, by omega⟩ ⟨by omega, by omega⟩ dX0_become_85 (v := (M 13 3)) (rfl) ?_
  refine wp_iast 6 rfl rfl ⟨by omega, by omega⟩ ⟨by omega, by omega⟩ dX0_become_86 (jn := 3) rfl ?_
  refine wp_aload_n dX0_become_87 rfl rfl ?_
  refine wp_get 2 rfl fl_RX0_24 rfl ⟨by omega, by omega⟩ dX0_become_88 rfl (v := 7) (sr_2_8 (M := M) hR) ?_
  refine wp_iload_n dX0_become_91 rfl rfl ?_
  refine wp_aload_n dX0_become_92 rfl rfl ?_
  refine wp_get 9 rfl fl_RX0_24 rfl ⟨by omega, by omega⟩ dX0_become_93 rfl (v := 14) (sr_9_8 (M := M) hR) ?_
  refine wp_iload_n dX0_become_96 rfl rfl ?_
  refine wp_iald 14 rfl rfl ⟨by omega, by omega⟩ ⟨by omega, by omega⟩ dX0_become_97 (v := (M 14 3)) (rfl) ?_
  refine wp_iast 7 rfl rfl ⟨by omega, by omega⟩ ⟨by omega, by omega⟩ dX0_become_98 (jn := 3) rfl ?_
  refine wp_aload_n dX0_become_99 rfl rfl ?_
  refine wp_get 2 rfl fl_RX0_27 rfl ⟨by omega, by omega⟩ dX0_become_100 rfl (v := 8) (sr_2_9 (M := M) hR) ?_
  refine wp_iload_n dX0_become_103 rfl rfl ?_
  refine wp_aload_n dX0_become_104 rfl rfl ?_
  refine wp_get 9 rfl fl_RX0_27 rfl ⟨by omega, by omega⟩ dX0_become_105 rfl (v := 15) (sr_9_9 (M := M) hR) ?_
  refine wp_iload_n dX0_become_108 rfl rfl ?_
  refine wp_iald 15 rfl rfl ⟨by omega, by omega⟩ ⟨by omega, by omega⟩ dX0_become_109 (v := (M 15 3)) (rfl) ?_
  refine wp_iast 8 rfl rfl ⟨by omega, by omega⟩ ⟨by omega, by omega⟩ dX0_become_110 (jn := 3) rfl ?_
  refine wp_iinc (loc' := [(2, 2), (2, 9), (0, 4)]) dX0_become_111 rfl (by omega) rfl ?_
  refine wp_goto (tgt := 34) dX0_become_114 (by decide) ?_
  refine wp_iload_n dX0_become_34 rfl rfl ?_
  refine wp_iconst dX0_become_35 (by decide) ?_
  refine wp_icmp_ge (tgt := 117) dX0_become_36 (by decide) (fun h => absurd h (by decide)) (fun _ => ?_)
  refine wp_aload_n dX0_become_39 rfl rfl ?_
  refine wp_get 2 rfl fl_RX0_9 rfl ⟨by omega, by omega⟩ dX0_become_40 rfl (v := 3) (sr_2_4 (M := M) hR) ?_
  refine wp_iload_n dX0_become_43 rfl rfl ?_
  refine wp_aload_n dX0_become_44 rfl rfl ?_
  refine wp_get 9 rfl fl_RX0_9 rfl ⟨by omega, by omega⟩ dX0_become_45 rfl (v := 10) (sr_9_4 (M := M) hR) ?_
  refine wp_iload_n dX0_become_48 rfl rfl ?_
  refine wp_iald 10 rfl rfl ⟨by omega, by omega⟩ ⟨by omega, by omega⟩ dX0_become_49 (v := (M 10 4)) (rfl) ?_
  refine wp_iast 3 rfl rfl ⟨by omega, by omega⟩ ⟨by omega, by omega⟩ dX0_become_50 (jn := 4) rfl ?_
  refine wp_aload_n dX0_become_51 rfl rfl ?_
  refine wp_get 2 rfl fl_RX0_15 rfl ⟨by omega, by omega⟩ dX0_become_52 rfl (v := 4) (sr_2_5 (M := M) hR) ?_
  refine wp_iload_n dX0_become_55 rfl rfl ?_
  refine wp_aload_n dX0_become_56 rfl rfl ?_
  refine wp_get 9 rfl fl_RX0_15 rfl ⟨by omega, by omega⟩ dX0_become_57 rfl (v := 11) (sr_9_5 (M := M) hR) ?_
  refine wp_iload_n dX0_become_60 rfl rfl ?_
  refine wp_iald 11 rfl rfl ⟨by omega, by omega⟩ ⟨by omega, by omega⟩ dX0_become_61 (v := (M 11 4)) (rfl) ?_
  refine wp_iast 4 rfl rfl ⟨by omega, by omega⟩ ⟨by omega, by omega⟩ dX0_become_62 (jn := 4) rfl ?_
  refine wp_aload_n dX0_become_63 rfl rfl ?_
  refine wp_get 2 rfl fl_RX0_18 rfl ⟨by omega, by omega⟩ dX0_become_64 rfl (v := 5) (sr_2_6 (M := M) hR) ?_
  refine wp_iload_n dX0_become_67 rfl rfl ?_
  refine wp_aload_n dX0_become_68 rfl rfl ?_
  refine wp_get 9 rfl fl_RX0_18 rfl ⟨by omega, by omega⟩ dX0_become_69 rfl (v := 12) (sr_9_6 (M := M) hR) ?_
  refine wp_iload_n dX0_become_72 rfl rfl ?_
  refine wp_iald 12 rfl rfl ⟨by omega, by omega⟩ ⟨by omega, by omega⟩ dX0_become_73 (v := (M 12 4)) (rfl) ?_
  refine wp_iast 5 rfl rfl ⟨by omega, by omega⟩ ⟨by omega, by omega⟩ dX0_become_74 (jn := 4) rfl ?_
  refine wp_aload_n dX0_become_75 rfl rfl ?_
  refine wp_get 2 rfl fl_RX0_21 rfl ⟨by omega, by omega⟩ dX0_become_76 rfl (v := 6) (sr_2_7 (M := M) hR) ?_
  refine wp_iload_n dX0_become_79 rfl rfl ?_
  refine wp_aload_n dX0_become_80 rfl rfl ?_
  refine wp_get 9 rfl fl_RX0_21 rfl ⟨by omega, by omega⟩ dX0_become_81 rfl (v := 13) (sr_9_7 (M := M) hR) ?_
  refine wp_iload_n dX0_become_84 rfl rfl ?_
  refine wp_iald 13 rfl rfl ⟨by omega, by omega⟩ ⟨by omega, by omega⟩ dX0_become_85 (v := (M 13 4)) (rfl) ?_
  refine wp_iast 6 rfl rfl ⟨by omega, by omega⟩ ⟨by omega, by omega⟩ dX0_become_86 (jn := 4) rfl ?_
  refine wp_aload_n dX0_become_87 rfl rfl ?_
  refine wp_get 2 rfl fl_RX0_24 rfl ⟨by omega, by omega⟩ dX0_become_88 rfl (v := 7) (sr_2_8 (M := M) hR) ?_
  refine wp_iload_n dX0_become_91 rfl rfl ?_
  refine wp_aload_n dX0_become_92 rfl rfl ?_
  refine wp_get 9 rfl fl_RX0_24 rfl ⟨by omega, by omega⟩ dX0_become_93 rfl (v := 14) (sr_9_8 (M := M) hR) ?_
  refine wp_iload_n dX0_become_96 rfl rfl ?_
  refine wp_iald 14 rfl rfl ⟨by omega, by omega⟩ ⟨by omega, by omega⟩ dX0_become_97 (v := (M 14 4)) (rfl) ?_
  refine wp_iast 7 rfl rfl ⟨by omega, by omega⟩ ⟨by omega, by omega⟩ dX0_become_98 (jn := 4) rfl ?_
  refine wp_aload_n dX0_become_99 rfl rfl ?_
  refine wp_get 2 rfl fl_RX0_27 rfl ⟨by omega, by omega⟩ dX0_become_100 rfl (v := 8) (sr_2_9 (M := M) hR) ?_
  refine wp_iload_n dX0_become_103 rfl rfl ?_
  refine wp_aload_n dX0_become_104 rfl rfl ?_
  refine wp_get 9 rfl fl_RX0_27 rfl ⟨by omega, by omega⟩ dX0_become_105 rfl (v := 15) (sr_9_9 (M := M) hR) ?_
  refine wp_iload_n dX0_become_108 rfl rfl ?_
  refine wp_iald 15 rfl rfl ⟨by omega, by omega⟩ ⟨by omega, by omega⟩ dX0_become_109 (v := (M 15 4)) (rfl) ?_
  refine wp_iast 8 rfl rfl ⟨by omega, by omega⟩ ⟨by omega, by omega⟩ dX0_become_110 (jn := 4) rfl ?_
  refine wp_iinc (loc' := [(2, 2), (2, 9), (0, 5)]) dX0_become_111 rfl (by omega) rfl ?_
  refine wp_goto (tgt := 34) dX0_become_114 (by decide) ?_
  refine wp_iload_n dX0_become_34 rfl rfl ?_
  refine wp_iconst dX0_become_35 (by decide) ?_
  refine wp_icmp_ge (tgt := 117) dX0_become_36 (by decide) (fun _ => ?_) (fun h => absurd h (by decide))
  refine wp_vret rfl dX0_become_117 ?_
  exact k
