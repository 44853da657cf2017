/-! ===== Land ===== -/
set_option maxRecDepth 20000 in
set_option maxHeartbeats 4000000 in
theorem sp_has {l : Launch} {g : Gw} {d n : Nat} {M : Mm} {Q : Option Wd → Mm → Prop} (L : Nat) (hL : L = 2 ∨ L = 16) (hn : 60 ≤ n) (x : Int) (kt : 0 ≤ x ∧ x < M L 2 ∧ x < 5 → Q (some (0, 1)) M) (kf : ¬ (0 ≤ x ∧ x < M L 2 ∧ x < 5) → Q (some (0, 0)) M) : Wp l g d 0 0 n m_X0_has 0 [] [(2, (L : Int)), (0, x)] M Q := by
  rcases hL with rfl | rfl
  · refine wp_iload_n dX0_has_0 rfl rfl ?_
    refine wp_if_lt (tgt := 21) dX0_has_1 (by decide) (fun h1 => ?_) (fun h1 => ?_)
    · refine wp_iconst dX0_has_21 (by decide) ?_
      refine wp_zret rfl (by omega) dX0_has_22 ?_
      exact kf (by omega)
    · refine wp_iload_n dX0_has_4 rfl rfl ?_
      refine wp_aload_n dX0_has_5 rfl rfl ?_
      refine wp_get 2 rfl fl_RX0_30 rfl ⟨by omega, by omega⟩ dX0_has_6 rfl (v := (M 2 2)) (rfl) ?_
      refine wp_icmp_ge (tgt := 21) dX0_has_9 (by decide) (fun h9 => ?_) (fun h9 => ?_)
      · refine wp_iconst dX0_has_21 (by decide) ?_
        refine wp_zret rfl (by omega) dX0_has_22 ?_
        exact kf (by omega)
      · refine wp_iload_n dX0_has_12 rfl rfl ?_
        refine wp_iconst dX0_has_13 (by decide) ?_
        refine wp_icmp_ge (tgt := 21) dX0_has_14 (by decide) (fun h14 => ?_) (fun h14 => ?_)
        · refine wp_iconst dX0_has_21 (by decide) ?_
          refine wp_zret rfl (by omega) dX0_has_22 ?_
          exact kf (by omega)
        · refine wp_iconst dX0_has_17 (by decide) ?_
          refine wp_goto (tgt := 22) dX0_has_18 (by decide) ?_
          refine wp_zret rfl (by omega) dX0_has_22 ?_
          exact kt (by omega)
  · refine wp_iload_n dX0_has_0 rfl rfl ?_
    refine wp_if_lt (tgt := 21) dX0_has_1 (by decide) (fun h1 => ?_) (fun h1 => ?_)
    · refine wp_iconst dX0_has_21 (by decide) ?_
      refine wp_zret rfl (by omega) dX0_has_22 ?_
      exact kf (by omega)
    · refine wp_iload_n dX0_has_4 rfl rfl ?_
      refine wp_aload_n dX0_has_5 rfl rfl ?_
      refine wp_get 16 rfl fl_RX0_30 rfl ⟨by omega, by omega⟩ dX0_has_6 rfl (v := (M 16 2)) (rfl) ?_
      refine wp_icmp_ge (tgt := 21) dX0_has_9 (by decide) (fun h9 => ?_) (fun h9 => ?_)
      · refine wp_iconst dX0_has_21 (by decide) ?_
        refine wp_zret rfl (by omega) dX0_has_22 ?_
        exact kf (by omega)
      · refine wp_iload_n dX0_has_12 rfl rfl ?_
        refine wp_iconst dX0_has_13 (by decide) ?_
        refine wp_icmp_ge (tgt := 21) dX0_has_14 (by decide) (fun h14 => ?_) (fun h14 => ?_)
        · refine wp_iconst dX0_has_21 (by decide) ?_
          refine wp_zret rfl (by omega) dX0_has_22 ?_
          exact kf (by omega)
        · refine wp_iconst dX0_has_17 (by decide) ?_
          refine wp_goto (tgt := 22) dX0_has_18 (by decide) ?_
          refine wp_zret rfl (by omega) dX0_has_22 ?_
          exact kt (by omega)
set_option maxRecDepth 20000 in
set_option maxHeartbeats 4000000 in
theorem sp_at {l : Launch} {g : Gw} {d n : Nat} {M : Mm} {Q : Option Wd → Mm → Prop} (L : Nat) (hL : L = 2 ∨ L = 16) (hn : 60 ≤ n) (hR : SR M) (x : Int) (k1 : 0 ≤ x ∧ x < M L 3 ∧ x < 5 → Q (some (0, M (L + 6) x.toNat)) M) (k2 : ¬ (0 ≤ x ∧ x < M L 3 ∧ x < 5) → Q (some (0, -1)) M) : Wp l g d 0 0 n m_X0_at 0 [] [(2, (L : Int)), (0, x)] M Q := by
  rcases hL with rfl | rfl
  · refine wp_iload_n dX0_at_0 rfl rfl ?_
    refine wp_if_lt (tgt := 26) dX0_at_1 (by decide) (fun h1 => ?_) (fun h1 => ?_)
    · refine wp_iconst dX0_at_26 (by decide) ?_
      refine wp_iret rfl dX0_at_27 ?_
      exact k2 (by omega)
    · refine wp_iload_n dX0_at_4 rfl rfl ?_
      refine wp_aload_n dX0_at_5 rfl rfl ?_
      refine wp_get 2 rfl fl_RX0_40 rfl ⟨by omega, by omega⟩ dX0_at_6 rfl (v := (M 2 3)) (rfl) ?_
      refine wp_icmp_ge (tgt := 26) dX0_at_9 (by decide) (fun h9 => ?_) (fun h9 => ?_)
      · refine wp_iconst dX0_at_26 (by decide) ?_
        refine wp_iret rfl dX0_at_27 ?_
        exact k2 (by omega)
      · refine wp_iload_n dX0_at_12 rfl rfl ?_
        refine wp_iconst dX0_at_13 (by decide) ?_
        refine wp_icmp_ge (tgt := 26) dX0_at_14 (by decide) (fun h14 => ?_) (fun h14 => ?_)
        · refine wp_iconst dX0_at_26 (by decide) ?_
          refine wp_iret rfl dX0_at_27 ?_
          exact k2 (by omega)
        · refine wp_aload_n dX0_at_17 rfl rfl ?_
          refine wp_get 2 rfl fl_RX0_27 rfl ⟨by omega, by omega⟩ dX0_at_18 rfl (v := 8) (sr_2_9 hR) ?_
          refine wp_iload_n dX0_at_21 rfl rfl ?_
          refine wp_iald 8 rfl rfl ⟨by omega, by omega⟩ ⟨by omega, by omega⟩ dX0_at_22 (v := (M 8 (x).toNat)) (rfl) ?_
          refine wp_goto (tgt := 27) dX0_at_23 (by decide) ?_
          refine wp_iret rfl dX0_at_27 ?_
          exact k1 (by omega)
  · refine wp_iload_n dX0_at_0 rfl rfl ?_
    refine wp_if_lt (tgt := 26) dX0_at_1 (by decide) (fun h1 => ?_) (fun h1 => ?_)
    · refine wp_iconst dX0_at_26 (by decide) ?_
      refine wp_iret rfl dX0_at_27 ?_
      exact k2 (by omega)
    · refine wp_iload_n dX0_at_4 rfl rfl ?_
      refine wp_aload_n dX0_at_5 rfl rfl ?_
      refine wp_get 16 rfl fl_RX0_40 rfl ⟨by omega, by omega⟩ dX0_at_6 rfl (v := (M 16 3)) (rfl) ?_
      refine wp_icmp_ge (tgt := 26) dX0_at_9 (by decide) (fun h9 => ?_) (fun h9 => ?_)
      · refine wp_iconst dX0_at_26 (by decide) ?_
        refine wp_iret rfl dX0_at_27 ?_
        exact k2 (by omega)
      · refine wp_iload_n dX0_at_12 rfl rfl ?_
        refine wp_iconst dX0_at_13 (by decide) ?_
        refine wp_icmp_ge (tgt := 26) dX0_at_14 (by decide) (fun h14 => ?_) (fun h14 => ?_)
        · refine wp_iconst dX0_at_26 (by decide) ?_
          refine wp_iret rfl dX0_at_27 ?_
          exact k2 (by omega)
        · refine wp_aload_n dX0_at_17 rfl rfl ?_
          refine wp_get 16 rfl fl_RX0_27 rfl ⟨by omega, by omega⟩ dX0_at_18 rfl (v := 22) (sr_16_9 hR) ?_
          refine wp_iload_n dX0_at_21 rfl rfl ?_
          refine wp_iald 22 rfl rfl ⟨by omega, by omega⟩ ⟨by omega, by omega⟩ dX0_at_22 (v := (M 22 (x).toNat)) (rfl) ?_
          refine wp_goto (tgt := 27) dX0_at_23 (by decide) ?_
          refine wp_iret rfl dX0_at_27 ?_
          exact k1 (by omega)
set_option maxRecDepth 20000 in
set_option maxHeartbeats 4000000 in
theorem sp_of_kind {l : Launch} {g : Gw} {d n : Nat} {M : Mm} {Q : Option Wd → Mm → Prop} (L : Nat) (hL : L = 2 ∨ L = 16) (hn : 60 ≤ n) (hR : SR M) (x : Int) (hx : 0 ≤ x ∧ x < M L 2 ∧ x < 5) (k : Q (some (0, M (L + 1) x.toNat)) M) : Wp l g d 0 0 n m_X0_of 0 [] [(2, (L : Int)), (2, ((L + 1 : Nat) : Int)), (0, x)] M Q := by
  rcases hL with rfl | rfl
  · refine wp_aload_n dX0_of_0 rfl rfl ?_
    refine wp_ifnull (tgt := 28) dX0_of_1 (by decide) (fun h => absurd h (by decide)) (fun _ => ?_)
    refine wp_iload_n dX0_of_4 rfl rfl ?_
    refine wp_if_lt (tgt := 28) dX0_of_5 (by decide) (fun h => absurd h (by omega)) (fun _ => ?_)
    refine wp_iload_n dX0_of_8 rfl rfl ?_
    refine wp_aload_n dX0_of_9 rfl rfl ?_
    refine wp_get 2 rfl fl_RX0_30 rfl ⟨by omega, by omega⟩ dX0_of_10 rfl (v := (M 2 2)) (rfl) ?_
    refine wp_icmp_ge (tgt := 28) dX0_of_13 (by decide) (fun h => absurd h (by omega)) (fun _ => ?_)
    refine wp_iload_n dX0_of_16 rfl rfl ?_
    refine wp_aload_n dX0_of_17 rfl rfl ?_
    refine wp_alen 3 rfl rfl (by decide) (by decide) ⟨by omega, by omega⟩ dX0_of_18 ?_
    refine wp_icmp_ge (tgt := 28) dX0_of_19 (by decide) (fun h => absurd h (by omega)) (fun _ => ?_)
    refine wp_aload_n dX0_of_22 rfl rfl ?_
    refine wp_iload_n dX0_of_23 rfl rfl ?_
    refine wp_iald 3 rfl rfl ⟨by omega, by omega⟩ ⟨by omega, by omega⟩ dX0_of_24 (v := (M 3 (x).toNat)) (rfl) ?_
    refine wp_goto (tgt := 29) dX0_of_25 (by decide) ?_
    refine wp_iret rfl dX0_of_29 ?_
    exact k
  · refine wp_aload_n dX0_of_0 rfl rfl ?_
    refine wp_ifnull (tgt := 28) dX0_of_1 (by decide) (fun h => absurd h (by decide)) (fun _ => ?_)
    refine wp_iload_n dX0_of_4 rfl rfl ?_
    refine wp_if_lt (tgt := 28) dX0_of_5 (by decide) (fun h => absurd h (by omega)) (fun _ => ?_)
    refine wp_iload_n dX0_of_8 rfl rfl ?_
    refine wp_aload_n dX0_of_9 rfl rfl ?_
    refine wp_get 16 rfl fl_RX0_30 rfl ⟨by omega, by omega⟩ dX0_of_10 rfl (v := (M 16 2)) (rfl) ?_
    refine wp_icmp_ge (tgt := 28) dX0_of_13 (by decide) (fun h => absurd h (by omega)) (fun _ => ?_)
    refine wp_iload_n dX0_of_16 rfl rfl ?_
    refine wp_aload_n dX0_of_17 rfl rfl ?_
    refine wp_alen 17 rfl rfl (by decide) (by decide) ⟨by omega, by omega⟩ dX0_of_18 ?_
    refine wp_icmp_ge (tgt := 28) dX0_of_19 (by decide) (fun h => absurd h (by omega)) (fun _ => ?_)
    refine wp_aload_n dX0_of_22 rfl rfl ?_
    refine wp_iload_n dX0_of_23 rfl rfl ?_
    refine wp_iald 17 rfl rfl ⟨by omega, by omega⟩ ⟨by omega, by omega⟩ dX0_of_24 (v := (M 17 (x).toNat)) (rfl) ?_
    refine wp_goto (tgt := 29) dX0_of_25 (by decide) ?_
    refine wp_iret rfl dX0_of_29 ?_
    exact k
set_option maxRecDepth 20000 in
set_option maxHeartbeats 4000000 in
theorem sp_of_number {l : Launch} {g : Gw} {d n : Nat} {M : Mm} {Q : Option Wd → Mm → Prop} (L : Nat) (hL : L = 2 ∨ L = 16) (hn : 60 ≤ n) (hR : SR M) (x : Int) (hx : 0 ≤ x ∧ x < M L 2 ∧ x < 5) (k : Q (some (0, M (L + 2) x.toNat)) M) : Wp l g d 0 0 n m_X0_of 0 [] [(2, (L : Int)), (2, ((L + 2 : Nat) : Int)), (0, x)] M Q := by
  rcases hL with rfl | rfl
  · refine wp_aload_n dX0_of_0 rfl rfl ?_
    refine wp_ifnull (tgt := 28) dX0_of_1 (by decide) (fun h => absurd h (by decide)) (fun _ => ?_)
    refine wp_iload_n dX0_of_4 rfl rfl ?_
    refine wp_if_lt (tgt := 28) dX0_of_5 (by decide) (fun h => absurd h (by omega)) (fun _ => ?_)
    refine wp_iload_n dX0_of_8 rfl rfl ?_
    refine wp_aload_n dX0_of_9 rfl rfl ?_
    refine wp_get 2 rfl fl_RX0_30 rfl ⟨by omega, by omega⟩ dX0_of_10 rfl (v := (M 2 2)) (rfl) ?_
    refine wp_icmp_ge (tgt := 28) dX0_of_13 (by decide) (fun h => absurd h (by omega)) (fun _ => ?_)
    refine wp_iload_n dX0_of_16 rfl rfl ?_
    refine wp_aload_n dX0_of_17 rfl rfl ?_
    refine wp_alen 4 rfl rfl (by decide) (by decide) ⟨by omega, by omega⟩ dX0_of_18 ?_
    refine wp_icmp_ge (tgt := 28) dX0_of_19 (by decide) (fun h => absurd h (by omega)) (fun _ => ?_)
    refine wp_aload_n dX0_of_22 rfl rfl ?_
    refine wp_iload_n dX0_of_23 rfl rfl ?_
    refine wp_iald 4 rfl rfl ⟨by omega, by omega⟩ ⟨by omega, by omega⟩ dX0_of_24 (v := (M 4 (x).toNat)) (rfl) ?_
    refine wp_goto (tgt := 29) dX0_of_25 (by decide) ?_
    refine wp_iret rfl dX0_of_29 ?_
    exact k
  · refine wp_aload_n dX0_of_0 rfl rfl ?_
    refine wp_ifnull (tgt := 28) dX0_of_1 (by decide) (fun h => absurd h (by decide)) (fun _ => ?_)
    refine wp_iload_n dX0_of_4 rfl rfl ?_
    refine wp_if_lt (tgt := 28) dX0_of_5 (by decide) (fun h => absurd h (by omega)) (fun _ => ?_)
    refine wp_iload_n dX0_of_8 rfl rfl ?_
    refine wp_aload_n dX0_of_9 rfl rfl ?_
    refine wp_get 16 rfl fl_RX0_30 rfl ⟨by omega, by omega⟩ dX0_of_10 rfl (v := (M 16 2)) (rfl) ?_
    refine wp_icmp_ge (tgt := 28) dX0_of_13 (by decide) (fun h => absurd h (by omega)) (fun _ => ?_)
    refine wp_iload_n dX0_of_16 rfl rfl ?_
    refine wp_aload_n dX0_of_17 rfl rfl ?_
    refine wp_alen 18 rfl rfl (by decide) (by decide) ⟨by omega, by omega⟩ dX0_of_18 ?_
    refine wp_icmp_ge (tgt := 28) dX0_of_19 (by decide) (fun h => absurd h (by omega)) (fun _ => ?_)
    refine wp_aload_n dX0_of_22 rfl rfl ?_
    refine wp_iload_n dX0_of_23 rfl rfl ?_
    refine wp_iald 18 rfl rfl ⟨by omega, by omega⟩ ⟨by omega, by omega⟩ dX0_of_24 (v := (M 18 (x).toNat)) (rfl) ?_
    refine wp_goto (tgt := 29) dX0_of_25 (by decide) ?_
    refine wp_iret rfl dX0_of_29 ?_
    exact k
set_option maxRecDepth 20000 in
set_option maxHeartbeats 4000000 in
theorem sp_of_likes {l : Launch} {g : Gw} {d n : Nat} {M : Mm} {Q : Option Wd → Mm → Prop} (L : Nat) (hL : L = 2 ∨ L = 16) (hn : 60 ≤ n) (hR : SR M) (x : Int) (hx : 0 ≤ x ∧ x < M L 2 ∧ x < 5) (k : Q (some (0, M (L + 3) x.toNat)) M) : Wp l g d 0 0 n m_X0_of 0 [] [(2, (L : Int)), (2, ((L + 3 : Nat) : Int)), (0, x)] M Q := by
  rcases hL with rfl | rfl
  · refine wp_aload_n dX0_of_0 rfl rfl ?_
    refine wp_ifnull (tgt := 28) dX0_of_1 (by decide) (fun h => absurd h (by decide)) (fun _ => ?_)
    refine wp_iload_n dX0_of_4 rfl rfl ?_
    refine wp_if_lt (tgt := 28) dX0_of_5 (by decide) (fun h => absurd h (by omega)) (fun _ => ?_)
    refine wp_iload_n dX0_of_8 rfl rfl ?_
    refine wp_aload_n dX0_of_9 rfl rfl ?_
    refine wp_get 2 rfl fl_RX0_30 rfl ⟨by omega, by omega⟩ dX0_of_10 rfl (v := (M 2 2)) (rfl) ?_
    refine wp_icmp_ge (tgt := 28) dX0_of_13 (by decide) (fun h => absurd h (by omega)) (fun _ => ?_)
    refine wp_iload_n dX0_of_16 rfl rfl ?_
    refine wp_aload_n dX0_of_17 rfl rfl ?_
    refine wp_alen 5 rfl rfl (by decide) (by decide) ⟨by omega, by omega⟩ dX0_of_18 ?_
    refine wp_icmp_ge (tgt := 28) dX0_of_19 (by decide) (fun h => absurd h (by omega)) (fun _ => ?_)
    refine wp_aload_n dX0_of_22 rfl rfl ?_
    refine wp_iload_n dX0_of_23 rfl rfl ?_
    refine wp_iald 5 rfl rfl ⟨by omega, by omega⟩ ⟨by omega, by omega⟩ dX0_of_24 (v := (M 5 (x).toNat)) (rfl) ?_
    refine wp_goto (tgt := 29) dX0_of_25 (by decide) ?_
    refine wp_iret rfl dX0_of_29 ?_
    exact k
  · refine wp_aload_n dX0_of_0 rfl rfl ?_
    refine wp_ifnull (tgt := 28) dX0_of_1 (by decide) (fun h => absurd h (by decide)) (fun _ => ?_)
    refine wp_iload_n dX0_of_4 rfl rfl ?_
    refine wp_if_lt (tgt := 28) dX0_of_5 (by decide) (fun h => absurd h (by omega)) (fun _ => ?_)
    refine wp_iload_n dX0_of_8 rfl rfl ?_
    refine wp_aload_n dX0_of_9 rfl rfl ?_
    refine wp_get 16 rfl fl_RX0_30 rfl ⟨by omega, by omega⟩ dX0_of_10 rfl (v := (M 16 2)) (rfl) ?_
    refine wp_icmp_ge (tgt := 28) dX0_of_13 (by decide) (fun h => absurd h (by omega)) (fun _ => ?_)
    refine wp_iload_n dX0_of_16 rfl rfl ?_
    refine wp_aload_n dX0_of_17 rfl rfl ?_
    refine wp_alen 19 rfl rfl (by decide) (by decide) ⟨by omega, by omega⟩ dX0_of_18 ?_
    refine wp_icmp_ge (tgt := 28) dX0_of_19 (by decide) (fun h => absurd h (by omega)) (fun _ => ?_)
    refine wp_aload_n dX0_of_22 rfl rfl ?_
    refine wp_iload_n dX0_of_23 rfl rfl ?_
    refine wp_iald 19 rfl rfl ⟨by omega, by omega⟩ ⟨by omega, by omega⟩ dX0_of_24 (v := (M 19 (x).toNat)) (rfl) ?_
    refine wp_goto (tgt := 29) dX0_of_25 (by decide) ?_
    refine wp_iret rfl dX0_of_29 ?_
    exact k
set_option maxRecDepth 20000 in
set_option maxHeartbeats 4000000 in
theorem sp_of_gifts {l : Launch} {g : Gw} {d n : Nat} {M : Mm} {Q : Option Wd → Mm → Prop} (L : Nat) (hL : L = 2 ∨ L = 16) (hn : 60 ≤ n) (hR : SR M) (x : Int) (hx : 0 ≤ x ∧ x < M L 2 ∧ x < 5) (k : Q (some (0, M (L + 4) x.toNat)) M) : Wp l g d 0 0 n m_X0_of 0 [] [(2, (L : Int)), (2, ((L + 4 : Nat) : Int)), (0, x)] M Q := by
  rcases hL with rfl | rfl
  · refine wp_aload_n dX0_of_0 rfl rfl ?_
    refine wp_ifnull (tgt := 28) dX0_of_1 (by decide) (fun h => absurd h (by decide)) (fun _ => ?_)
    refine wp_iload_n dX0_of_4 rfl rfl ?_
    refine wp_if_lt (tgt := 28) dX0_of_5 (by decide) (fun h => absurd h (by omega)) (fun _ => ?_)
    refine wp_iload_n dX0_of_8 rfl rfl ?_
    refine wp_aload_n dX0_of_9 rfl rfl ?_
    refine wp_get 2 rfl fl_RX0_30 rfl ⟨by omega, by omega⟩ dX0_of_10 rfl (v := (M 2 2)) (rfl) ?_
    refine wp_icmp_ge (tgt := 28) dX0_of_13 (by decide) (fun h => absurd h (by omega)) (fun _ => ?_)
    refine wp_iload_n dX0_of_16 rfl rfl ?_
    refine wp_aload_n dX0_of_17 rfl rfl ?_
    refine wp_alen 6 rfl rfl (by decide) (by decide) ⟨by omega, by omega⟩ dX0_of_18 ?_
    refine wp_icmp_ge (tgt := 28) dX0_of_19 (by decide) (fun h => absurd h (by omega)) (fun _ => ?_)
    refine wp_aload_n dX0_of_22 rfl rfl ?_
    refine wp_iload_n dX0_of_23 rfl rfl ?_
    refine wp_iald 6 rfl rfl ⟨by omega, by omega⟩ ⟨by omega, by omega⟩ dX0_of_24 (v := (M 6 (x).toNat)) (rfl) ?_
    refine wp_goto (tgt := 29) dX0_of_25 (by decide) ?_
    refine wp_iret rfl dX0_of_29 ?_
    exact k
  · refine wp_aload_n dX0_of_0 rfl rfl ?_
    refine wp_ifnull (tgt := 28) dX0_of_1 (by decide) (fun h => absurd h (by decide)) (fun _ => ?_)
    refine wp_iload_n dX0_of_4 rfl rfl ?_
    refine wp_if_lt (tgt := 28) dX0_of_5 (by decide) (fun h => absurd h (by omega)) (fun _ => ?_)
    refine wp_iload_n dX0_of_8 rfl rfl ?_
    refine wp_aload_n dX0_of_9 rfl rfl ?_
    refine wp_get 16 rfl fl_RX0_30 rfl ⟨by omega, by omega⟩ dX0_of_10 rfl (v := (M 16 2)) (rfl) ?_
    refine wp_icmp_ge (tgt := 28) dX0_of_13 (by decide) (fun h => absurd h (by omega)) (fun _ => ?_)
    refine wp_iload_n dX0_of_16 rfl rfl ?_
    refine wp_aload_n dX0_of_17 rfl rfl ?_
    refine wp_alen 20 rfl rfl (by decide) (by decide) ⟨by omega, by omega⟩ dX0_of_18 ?_
    refine wp_icmp_ge (tgt := 28) dX0_of_19 (by decide) (fun h => absurd h (by omega)) (fun _ => ?_)
    refine wp_aload_n dX0_of_22 rfl rfl ?_
    refine wp_iload_n dX0_of_23 rfl rfl ?_
    refine wp_iald 20 rfl rfl ⟨by omega, by omega⟩ ⟨by omega, by omega⟩ dX0_of_24 (v := (M 20 (x).toNat)) (rfl) ?_
    refine wp_goto (tgt := 29) dX0_of_25 (by decide) ?_
    refine wp_iret rfl dX0_of_29 ?_
    exact k
set_option maxRecDepth 20000 in
set_option maxHeartbeats 4000000 in
theorem sp_of_served {l : Launch} {g : Gw} {d n : Nat} {M : Mm} {Q : Option Wd → Mm → Prop} (L : Nat) (hL : L = 2 ∨ L = 16) (hn : 60 ≤ n) (hR : SR M) (x : Int) (hx : 0 ≤ x ∧ x < M L 2 ∧ x < 5) (k : Q (some (0, M (L + 5) x.toNat)) M) : Wp l g d 0 0 n m_X0_of 0 [] [(2, (L : Int)), (2, ((L + 5 : Nat) : Int)), (0, x)] M Q := by
  rcases hL with rfl | rfl
  · refine wp_aload_n dX0_of_0 rfl rfl ?_
    refine wp_ifnull (tgt := 28) dX0_of_1 (by decide) (fun h => absurd h (by decide)) (fun _ => ?_)
    refine wp_iload_n dX0_of_4 rfl rfl ?_
    refine wp_if_lt (tgt := 28) dX0_of_5 (by decide) (fun h => absurd h (by omega)) (fun _ => ?_)
    refine wp_iload_n dX0_of_8 rfl rfl ?_
    refine wp_aload_n dX0_of_9 rfl rfl ?_
    refine wp_get 2 rfl fl_RX0_30 rfl ⟨by omega, by omega⟩ dX0_of_10 rfl (v := (M 2 2)) (rfl) ?_
    refine wp_icmp_ge (tgt := 28) dX0_of_13 (by decide) (fun h => absurd h (by omega)) (fun _ => ?_)
    refine wp_iload_n dX0_of_16 rfl rfl ?_
    refine wp_aload_n dX0_of_17 rfl rfl ?_
    refine wp_alen 7 rfl rfl (by decide) (by decide) ⟨by omega, by omega⟩ dX0_of_18 ?_
    refine wp_icmp_ge (tgt := 28) dX0_of_19 (by decide) (fun h => absurd h (by omega)) (fun _ => ?_)
    refine wp_aload_n dX0_of_22 rfl rfl ?_
    refine wp_iload_n dX0_of_23 rfl rfl ?_
    refine wp_iald 7 rfl rfl ⟨by omega, by omega⟩ ⟨by omega, by omega⟩ dX0_of_24 (v := (M 7 (x).toNat)) (rfl) ?_
    refine wp_goto (tgt := 29) dX0_of_25 (by decide) ?_
    refine wp_iret rfl dX0_of_29 ?_
    exact k
  · refine wp_aload_n dX0_of_0 rfl rfl ?_
    refine wp_ifnull (tgt := 28) dX0_of_1 (by decide) (fun h => absurd h (by decide)) (fun _ => ?_)
    refine wp_iload_n dX0_of_4 rfl rfl ?_
    refine wp_if_lt (tgt := 28) dX0_of_5 (by decide) (fun h => absurd h (by omega)) (fun _ => ?_)
    refine wp_iload_n dX0_of_8 rfl rfl ?_
    refine wp_aload_n dX0_of_9 rfl rfl ?_
    refine wp_get 16 rfl fl_RX0_30 rfl ⟨by omega, by omega⟩ dX0_of_10 rfl (v := (M 16 2)) (rfl) ?_
    refine wp_icmp_ge (tgt := 28) dX0_of_13 (by decide) (fun h => absurd h (by omega)) (fun _ => ?_)
    refine wp_iload_n dX0_of_16 rfl rfl ?_
    refine wp_aload_n dX0_of_17 rfl rfl ?_
    refine wp_alen 21 rfl rfl (by decide) (by decide) ⟨by omega, by omega⟩ dX0_of_18 ?_
    refine wp_icmp_ge (tgt := 28) dX0_of_19 (by decide) (fun h => absurd h (by omega)) (fun _ => ?_)
    refine wp_aload_n dX0_of_22 rfl rfl ?_
    refine wp_iload_n dX0_of_23 rfl rfl ?_
    refine wp_iald 21 rfl rfl ⟨by omega, by omega⟩ ⟨by omega, by omega⟩ dX0_of_24 (v := (M 21 (x).toNat)) (rfl) ?_
    refine wp_goto (tgt := 29) dX0_of_25 (by decide) ?_
    refine wp_iret rfl dX0_of_29 ?_
    exact k
