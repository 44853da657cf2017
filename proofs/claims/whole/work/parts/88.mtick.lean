/-! ===== the model: minutes, coming, rule, tape ===== -/
def VMd (i j : Nat) : Prop := i = 75 ∨ (i = 69 ∧ j = 12)
theorem VMd.l : ∀ i j, VMd i j → VMl i j := by
  intro i j h
  unfold VMd at h
  unfold VMl
  omega
theorem Rm.dropm {M M' : Mm} {A : Ls} (h : Rm M A) (f : Fr VMd M M') (e : M' 69 12 = A.1 3 - 1) (hq : ∀ q : Nat, (q : Int) + 1 < A.1 3 → M' 75 q = A.2 5 (q + 1)) : Rm M' (dropA A) := by
  obtain ⟨a, b, c, d, x, y, z⟩ := h
  exact ⟨(f 69 7 (by unfold VMd; omega)).trans a, (f 69 4 (by unfold VMd; omega)).trans b, (f 69 10 (by unfold VMd; omega)).trans c, e, fun i hi => (f 73 i (by unfold VMd; omega)).trans (x i hi), fun r i hr hi => by
    show M' 74 (4 * i + r) = (if r + 1 = 5 then A.2 5 (i + 1) else A.2 (r + 1) i)
    rw [if_neg (by omega)]
    exact (f 74 _ (by unfold VMd; omega)).trans (y r i hr hi), fun q hq' => by
    have hq' : (q : Int) < A.1 3 - 1 := hq'
    exact hq q (by omega)⟩
theorem Rm.serve {M : Mm} {A : Ls} (h : Rm M A) {i : Nat} (hi : (i : Int) < A.1 2) : Rm (mu M 74 (4 * i + 3) (wrap (A.2 4 i + 1))) (serveA A i) := h.setR (r := 3) (by omega)
theorem Rm.minm {M : Mm} {A : Ls} (h : Rm M A) : Rm (mu M 69 7 (wrap (A.1 0 + 1))) (minA A) := ⟨rfl, h.2.1, h.2.2.1, h.2.2.2.1, h.2.2.2.2.1, h.2.2.2.2.2.1, h.2.2.2.2.2.2⟩
set_option maxRecDepth 20000 in
set_option maxHeartbeats 4000000 in
theorem lp_tdr  {l : Launch} {g : Gw} {d n : Nat} {M : Mm} {Q : Option Wd → Mm → Prop} (hn : 90 ≤ n) {A : Ls} (hR : SR M) (hA : Rm M A) (h1 : 1 ≤ A.1 3 ∧ A.1 3 ≤ 5) {gn u2 : Int} {u3 : Wd} (k : ∀ M' v, Rm M' (dropA A) → Fr VMd M M' → Wp l g d 0 0 n m_X8_ticks 101 [] [(2, 69), (0, gn), v, u3] M' Q) : Wp l g d 0 0 n m_X8_ticks 61 [] [(2, 69), (0, gn), (0, u2), u3] M Q := by
  rcases (show A.1 3 = 1 ∨ A.1 3 = 2 ∨ A.1 3 = 3 ∨ A.1 3 = 4 ∨ A.1 3 = 5 by omega) with h5 | h5 | h5 | h5 | h5
  · refine wp_aload_n dX8_ticks_61 rfl rfl ?_
    refine wp_dup dX8_ticks_62 (Or.inr rfl) ?_
    refine wp_get 69 rfl fl_RX8_123 rfl ⟨by omega, by omega⟩ dX8_ticks_63 rfl (v := 1) ((hA.2.2.2.1.trans h5)) ?_
    refine wp_iconst dX8_ticks_66 (by decide) ?_
    refine wp_isub dX8_ticks_67 (by omega) ?_
    refine wp_puti 69 rfl fl_RX8_123 rfl ⟨by omega, by omega⟩ dX8_ticks_68 rfl rfl ?_
    refine wp_iconst dX8_ticks_71 (by decide) ?_
    refine wp_istore_n (loc' := [(2, 69), (0, gn), (0, 0), u3]) dX8_ticks_72 rfl (Nat.le_of_ble_eq_true rfl) rfl ?_
    refine wp_iload_n dX8_ticks_73 rfl rfl ?_
    refine wp_aload_n dX8_ticks_74 rfl rfl ?_
    refine wp_get 69 rfl fl_RX8_123 rfl ⟨by omega, by omega⟩ dX8_ticks_75 rfl (v := 0) (rfl) ?_
    refine wp_icmp_ge (tgt := 101) dX8_ticks_78 (by decide) (fun _ => ?_) (fun h => absurd h (by decide))
    have f1 : Fr VMd M (mu M 69 12 0) := ((Fr.rf : Fr VMd M M).put (Or.inr ⟨rfl, rfl⟩))
    refine k _ _ (hA.dropm f1 ?_ ?_) f1
    · rw [h5]; rfl
    · intro q hq
      omega
  · refine wp_aload_n dX8_ticks_61 rfl rfl ?_
    refine wp_dup dX8_ticks_62 (Or.inr rfl) ?_
    refine wp_get 69 rfl fl_RX8_123 rfl ⟨by omega, by omega⟩ dX8_ticks_63 rfl (v := 2) ((hA.2.2.2.1.trans h5)) ?_
    refine wp_iconst dX8_ticks_66 (by decide) ?_
    refine wp_isub dX8_ticks_67 (by omega) ?_
    refine wp_puti 69 rfl fl_RX8_123 rfl ⟨by omega, by omega⟩ dX8_ticks_68 rfl rfl ?_
    refine wp_iconst dX8_ticks_71 (by decide) ?_
    refine wp_istore_n (loc' := [(2, 69), (0, gn), (0, 0), u3]) dX8_ticks_72 rfl (Nat.le_of_ble_eq_true rfl) rfl ?_
    refine wp_iload_n dX8_ticks_73 rfl rfl ?_
    refine wp_aload_n dX8_ticks_74 rfl rfl ?_
    refine wp_get 69 rfl fl_RX8_123 rfl ⟨by omega, by omega⟩ dX8_ticks_75 rfl (v := 1) (rfl) ?_
    refine wp_icmp_ge (tgt := 101) dX8_ticks_78 (by decide) (fun h => absurd h (by decide)) (fun _ => ?_)
    refine wp_aload_n dX8_ticks_81 rfl rfl ?_
    refine wp_get 69 rfl fl_RX8_29 rfl ⟨by omega, by omega⟩ dX8_ticks_82 rfl (v := 75) (sr_69_11 (M := M) hR) ?_
    refine wp_iload_n dX8_ticks_85 rfl rfl ?_
    refine wp_aload_n dX8_ticks_86 rfl rfl ?_
    refine wp_get 69 rfl fl_RX8_29 rfl ⟨by omega, by omega⟩ dX8_ticks_87 rfl (v := 75) (sr_69_11 (M := M) hR) ?_
    refine wp_iload_n dX8_ticks_90 rfl rfl ?_
    refine wp_iconst dX8_ticks_91 (by decide) ?_
    refine wp_iadd dX8_ticks_92 (by omega) ?_
    refine wp_iald 75 rfl rfl ⟨by omega, by omega⟩ ⟨by omega, by omega⟩ dX8_ticks_93 (v := (A.2 5 1)) (hA.2.2.2.2.2.2 1 (by omega)) ?_
    refine wp_iast 75 rfl rfl ⟨by omega, by omega⟩ ⟨by omega, by omega⟩ dX8_ticks_94 (jn := 0) rfl ?_
    refine wp_iinc (loc' := [(2, 69), (0, gn), (0, 1), u3]) dX8_ticks_95 rfl (by omega) rfl ?_
    refine wp_goto (tgt := 73) dX8_ticks_98 (by decide) ?_
    refine wp_iload_n dX8_ticks_73 rfl rfl ?_
    refine wp_aload_n dX8_ticks_74 rfl rfl ?_
    refine wp_get 69 rfl fl_RX8_123 rfl ⟨by omega, by omega⟩ dX8_ticks_75 rfl (v := 1) (rfl) ?_
    refine wp_icmp_ge (tgt := 101) dX8_ticks_78 (by decide) (fun _ => ?_) (fun h => absurd h (by decide))
    have f1 : Fr VMd M (mu (mu M 69 12 1) 75 0 (A.2 5 1)) := (((Fr.rf : Fr VMd M M).put (Or.inr ⟨rfl, rfl⟩)).put (Or.inl rfl))
    refine k _ _ (hA.dropm f1 ?_ ?_) f1
    · rw [h5]; rfl
    · intro q hq
      rcases (show q = 0 by omega) with rfl
      · first | rfl | exact hA.2.2.2.2.2.2 1 (by omega)
  · refine wp_aload_n dX8_ticks_61 rfl rfl ?_
    refine wp_dup dX8_ticks_62 (Or.inr rfl) ?_
    refine wp_get 69 rfl fl_RX8_123 rfl ⟨by omega, by omega⟩ dX8_ticks_63 rfl (v := 3) ((hA.2.2.2.1.trans h5)) ?_
    refine wp_iconst dX8_ticks_66 (by decide) ?_
    refine wp_isub dX8_ticks_67 (by omega) ?_
    refine wp_puti 69 rfl fl_RX8_123 rfl ⟨by omega, by omega⟩ dX8_ticks_68 rfl rfl ?_
    refine wp_iconst dX8_ticks_71 (by decide) ?_
    refine wp_istore_n (loc' := [(2, 69), (0, gn), (0, 0), u3]) dX8_ticks_72 rfl (Nat.le_of_ble_eq_true rfl) rfl ?_
    refine wp_iload_n dX8_ticks_73 rfl rfl ?_
    refine wp_aload_n dX8_ticks_74 rfl rfl ?_
    refine wp_get 69 rfl fl_RX8_123 rfl ⟨by omega, by omega⟩ dX8_ticks_75 rfl (v := 2) (rfl) ?_
    refine wp_icmp_ge (tgt := 101) dX8_ticks_78 (by decide) (fun h => absurd h (by decide)) (fun _ => ?_)
    refine wp_aload_n dX8_ticks_81 rfl rfl ?_
    refine wp_get 69 rfl fl_RX8_29 rfl ⟨by omega, by omega⟩ dX8_ticks_82 rfl (v := 75) (sr_69_11 (M := M) hR) ?_
    refine wp_iload_n dX8_ticks_85 rfl rfl ?_
    refine wp_aload_n dX8_ticks_86 rfl rfl ?_
    refine wp_get 69 rfl fl_RX8_29 rfl ⟨by omega, by omega⟩ dX8_ticks_87 rfl (v := 75) (sr_69_11 (M := M) hR) ?_
    refine wp_iload_n dX8_ticks_90 rfl rfl ?_
    refine wp_iconst dX8_ticks_91 (by decide) ?_
    refine wp_iadd dX8_ticks_92 (by omega) ?_
    refine wp_iald 75 rfl rfl ⟨by omega, by omega⟩ ⟨by omega, by omega⟩ dX8_ticks_93 (v := (A.2 5 1)) (hA.2.2.2.2.2.2 1 (by omega)) ?_
    refine wp_iast 75 rfl rfl ⟨by omega, by omega⟩ ⟨by omega, by omega⟩ dX8_ticks_94 (jn := 0) rfl ?_
    refine wp_iinc (loc' := [(2, 69), (0, gn), (0, 1), u3]) dX8_ticks_95 rfl (by omega) rfl ?_
    refine wp_goto (tgt := 73) dX8_ticks_98 (by decide) ?_
    refine wp_iload_n dX8_ticks_73 rfl rfl ?_
    refine wp_aload_n dX8_ticks_74 rfl rfl ?_
    refine wp_get 69 rfl fl_RX8_123 rfl ⟨by omega, by omega⟩ dX8_ticks_75 rfl (v := 2) (rfl) ?_
    refine wp_icmp_ge (tgt := 101) dX8_ticks_78 (by decide) (fun h => absurd h (by decide)) (fun _ => ?_)
    refine wp_aload_n dX8_ticks_81 rfl rfl ?_
    refine wp_get 69 rfl fl_RX8_29 rfl ⟨by omega, by omega⟩ dX8_ticks_82 rfl (v := 75) (sr_69_11 (M := M) hR) ?_
    refine wp_iload_n dX8_ticks_85 rfl rfl ?_
    refine wp_aload_n dX8_ticks_86 rfl rfl ?_
    refine wp_get 69 rfl fl_RX8_29 rfl ⟨by omega, by omega⟩ dX8_ticks_87 rfl (v := 75) (sr_69_11 (M := M) hR) ?_
    refine wp_iload_n dX8_ticks_90 rfl rfl ?_
    refine wp_iconst dX8_ticks_91 (by decide) ?_
    refine wp_iadd dX8_ticks_92 (by omega) ?_
    refine wp_iald 75 rfl rfl ⟨by omega, by omega⟩ ⟨by omega, by omega⟩ dX8_ticks_93 (v := (M 75 2)) (rfl) ?_
    refine wp_iast 75 rfl rfl ⟨by omega, by omega⟩ ⟨by omega, by omega⟩ dX8_ticks_94 (jn := 1) rfl ?_
    refine wp_iinc (loc' := [(2, 69), (0, gn), (0, 2), u3]) dX8_ticks_95 rfl (by omega) rfl ?_
    refine wp_goto (tgt := 73) dX8_ticks_98 (by decide) ?_
    refine wp_iload_n dX8_ticks_73 rfl rfl ?_
    refine wp_aload_n dX8_ticks_74 rfl rfl ?_
    refine wp_get 69 rfl fl_RX8_123 rfl ⟨by omega, by omega⟩ dX8_ticks_75 rfl (v := 2) (rfl) ?_
    refine wp_icmp_ge (tgt := 101) dX8_ticks_78 (by decide) (fun _ => ?_) (fun h => absurd h (by decide))
    have f1 : Fr VMd M (mu (mu (mu M 69 12 2) 75 0 (A.2 5 1)) 75 1 (M 75 2)) := ((((Fr.rf : Fr VMd M M).put (Or.inr ⟨rfl, rfl⟩)).put (Or.inl rfl)).put (Or.inl rfl))
    refine k _ _ (hA.dropm f1 ?_ ?_) f1
    · rw [h5]; rfl
    · intro q hq
      rcases (show q = 0 ∨ q = 1 by omega) with rfl | rfl
      · first | rfl | exact hA.2.2.2.2.2.2 1 (by omega)
      · first | rfl | exact hA.2.2.2.2.2.2 2 (by omega)
  · refine wp_aload_n dX8_ticks_61 rfl rfl ?_
    refine wp_dup dX8_ticks_62 (Or.inr rfl) ?_
    refine wp_get 69 rfl fl_RX8_123 rfl ⟨by omega, by omega⟩ dX8_ticks_63 rfl (v := 4) ((hA.2.2.2.1.trans h5)) ?_
    refine wp_iconst dX8_ticks_66 (by decide) ?_
    refine wp_isub dX8_ticks_67 (by omega) ?_
    refine wp_puti 69 rfl fl_RX8_123 rfl ⟨by omega, by omega⟩ dX8_ticks_68 rfl rfl ?_
    refine wp_iconst dX8_ticks_71 (by decide) ?_
    refine wp_istore_n (loc' := [(2, 69), (0, gn), (0, 0), u3]) dX8_ticks_72 rfl (Nat.le_of_ble_eq_true rfl) rfl ?_
    refine wp_iload_n dX8_ticks_73 rfl rfl ?_
    refine wp_aload_n dX8_ticks_74 rfl rfl ?_
    refine wp_get 69 rfl fl_RX8_123 rfl ⟨by omega, by omega⟩ dX8_ticks_75 rfl (v := 3) (rfl) ?_
    refine wp_icmp_ge (tgt := 101) dX8_ticks_78 (by decide) (fun h => absurd h (by decide)) (fun _ => ?_)
    refine wp_aload_n dX8_ticks_81 rfl rfl ?_
    refine wp_get 69 rfl fl_RX8_29 rfl ⟨by omega, by omega⟩ dX8_ticks_82 rfl (v := 75) (sr_69_11 (M := M) hR) ?_
    refine wp_iload_n dX8_ticks_85 rfl rfl ?_
    refine wp_aload_n dX8_ticks_86 rfl rfl ?_
    refine wp_get 69 rfl fl_RX8_29 rfl ⟨by omega, by omega⟩ dX8_ticks_87 rfl (v := 75) (sr_69_11 (M := M) hR) ?_
    refine wp_iload_n dX8_ticks_90 rfl rfl ?_
    refine wp_iconst dX8_ticks_91 (by decide) ?_
    refine wp_iadd dX8_ticks_92 (by omega) ?_
    refine wp_iald 75 rfl rfl ⟨by omega, by omega⟩ ⟨by omega, by omega⟩ dX8_ticks_93 (v := (A.2 5 1)) (hA.2.2.2.2.2.2 1 (by omega)) ?_
    refine wp_iast 75 rfl rfl ⟨by omega, by omega⟩ ⟨by omega, by omega⟩ dX8_ticks_94 (jn := 0) rfl ?_
    refine wp_iinc (loc' := [(2, 69), (0, gn), (0, 1), u3]) dX8_ticks_95 rfl (by omega) rfl ?_
    refine wp_goto (tgt := 73) dX8_ticks_98 (by decide) ?_
    refine wp_iload_n dX8_ticks_73 rfl rfl ?_
    refine wp_aload_n dX8_ticks_74 rfl rfl ?_
    refine wp_get 69 rfl fl_RX8_123 rfl ⟨by omega, by omega⟩ dX8_ticks_75 rfl (v := 3) (rfl) ?_
    refine wp_icmp_ge (tgt := 101) dX8_ticks_78 (by decide) (fun h => absurd h (by decide)) (fun _ => ?_)
    refine wp_aload_n dX8_ticks_81 rfl rfl ?_
    refine wp_get 69 rfl fl_RX8_29 rfl ⟨by omega, by omega⟩ dX8_ticks_82 rfl (v := 75) (sr_69_11 (M := M) hR) ?_
    refine wp_iload_n dX8_ticks_85 rfl rfl ?_
    refine wp_aload_n dX8_ticks_86 rfl rfl ?_
    refine wp_get 69 rfl fl_RX8_29 rfl ⟨by omega, by omega⟩ dX8_ticks_87 rfl (v := 75) (sr_69_11 (M := M) hR) ?_
    refine wp_iload_n dX8_ticks_90 rfl rfl ?_
    refine wp_iconst dX8_ticks_91 (by decide) ?_
    refine wp_iadd dX8_ticks_92 (by omega) ?_
    refine wp_iald 75 rfl rfl ⟨by omega, by omega⟩ ⟨by omega, by omega⟩ dX8_ticks_93 (v := (M 75 2)) (rfl) ?_
    refine wp_iast 75 rfl rfl ⟨by omega, by omega⟩ ⟨by omega, by omega⟩ dX8_ticks_94 (jn := 1) rfl ?_
    refine wp_iinc (loc' := [(2, 69), (0, gn), (0, 2), u3]) dX8_ticks_95 rfl (by omega) rfl ?_
    refine wp_goto (tgt := 73) dX8_ticks_98 (by decide) ?_
    refine wp_iload_n dX8_ticks_73 rfl rfl ?_
    refine wp_aload_n dX8_ticks_74 rfl rfl ?_
    refine wp_get 69 rfl fl_RX8_123 rfl ⟨by omega, by omega⟩ dX8_ticks_75 rfl (v := 3) (rfl) ?_
    refine wp_icmp_ge (tgt := 101) dX8_ticks_78 (by decide) (fun h => absurd h (by decide)) (fun _ => ?_)
    refine wp_aload_n dX8_ticks_81 rfl rfl ?_
    refine wp_get 69 rfl fl_RX8_29 rfl ⟨by omega, by omega⟩ dX8_ticks_82 rfl (v := 75) (sr_69_11 (M := M) hR) ?_
    refine wp_iload_n dX8_ticks_85 rfl rfl ?_
    refine wp_aload_n dX8_ticks_86 rfl rfl ?_
    refine wp_get 69 rfl fl_RX8_29 rfl ⟨by omega, by omega⟩ dX8_ticks_87 rfl (v := 75) (sr_69_11 (M := M) hR) ?_
    refine wp_iload_n dX8_ticks_90 rfl rfl ?_
    refine wp_iconst dX8_ticks_91 (by decide) ?_
    refine wp_iadd dX8_ticks_92 (by omega) ?_
    refine wp_iald 75 rfl rfl ⟨by omega, by omega⟩ ⟨by omega, by omega⟩ dX8_ticks_93 (v := (M 75 3)) (rfl) ?_
    refine wp_iast 75 rfl rfl ⟨by omega, by omega⟩ ⟨by omega, by omega⟩ dX8_ticks_94 (jn := 2) rfl ?_
    refine wp_iinc (loc' := [(2, 69), (0, gn), (0, 3), u3]) dX8_ticks_95 rfl (by omega) rfl ?_
    refine wp_goto (tgt := 73) dX8_ticks_98 (by decide) ?_
    refine wp_iload_n dX8_ticks_73 rfl rfl ?_
    refine wp_aload_n dX8_ticks_74 rfl rfl ?_
    refine wp_get 69 rfl fl_RX8_123 rfl ⟨by omega, by omega⟩ dX8_ticks_75 rfl (v := 3) (rfl) ?_
    refine wp_icmp_ge (tgt := 101) dX8_ticks_78 (by decide) (fun _ => ?_) (fun h => absurd h (by decide))
    have f1 : Fr VMd M (mu (mu (mu (mu M 69 12 3) 75 0 (A.2 5 1)) 75 1 (M 75 2)) 75 2 (M 75 3)) := (((((Fr.rf : Fr VMd M M).put (Or.inr ⟨rfl, rfl⟩)).put (Or.inl rfl)).put (Or.inl rfl)).put (Or.inl rfl))
    refine k _ _ (hA.dropm f1 ?_ ?_) f1
    · rw [h5]; rfl
    · intro q hq
      rcases (show q = 0 ∨ q = 1 ∨ q = 2 by omega) with rfl | rfl | rfl
      · first | rfl | exact hA.2.2.2.2.2.2 1 (by omega)
      · first | rfl | exact hA.2.2.2.2.2.2 2 (by omega)
      · first | rfl | exact hA.2.2.2.2.2.2 3 (by omega)
  · refine wp_aload_n dX8_ticks_61 rfl rfl ?_
    refine wp_dup dX8_ticks_62 (Or.inr rfl) ?_
    refine wp_get 69 rfl fl_RX8_123 rfl ⟨by omega, by omega⟩ dX8_ticks_63 rfl (v := 5) ((hA.2.2.2.1.trans h5)) ?_
    refine wp_iconst dX8_ticks_66 (by decide) ?_
    refine wp_isub dX8_ticks_67 (by omega) ?_
    refine wp_puti 69 rfl fl_RX8_123 rfl ⟨by omega, by omega⟩ dX8_ticks_68 rfl rfl ?_
    refine wp_iconst dX8_ticks_71 (by decide) ?_
    refine wp_istore_n (loc' := [(2, 69), (0, gn), (0, 0), u3]) dX8_ticks_72 rfl (Nat.le_of_ble_eq_true rfl) rfl ?_
    refine wp_iload_n dX8_ticks_73 rfl rfl ?_
    refine wp_aload_n dX8_ticks_74 rfl rfl ?_
    refine wp_get 69 rfl fl_RX8_123 rfl ⟨by omega, by omega⟩ dX8_ticks_75 rfl (v := 4) (rfl) ?_
    refine wp_icmp_ge (tgt := 101) dX8_ticks_78 (by decide) (fun h => absurd h (by decide)) (fun _ => ?_)
    refine wp_aload_n dX8_ticks_81 rfl rfl ?_
    refine wp_get 69 rfl fl_RX8_29 rfl ⟨by omega, by omega⟩ dX8_ticks_82 rfl (v := 75) (sr_69_11 (M := M) hR) ?_
    refine wp_iload_n dX8_ticks_85 rfl rfl ?_
    refine wp_aload_n dX8_ticks_86 rfl rfl ?_
    refine wp_get 69 rfl fl_RX8_29 rfl ⟨by omega, by omega⟩ dX8_ticks_87 rfl (v := 75) (sr_69_11 (M := M) hR) ?_
    refine wp_iload_n dX8_ticks_90 rfl rfl ?_
    refine wp_iconst dX8_ticks_91 (by decide) ?_
    refine wp_iadd dX8_ticks_92 (by omega) ?_
    refine wp_iald 75 rfl rfl ⟨by omega, by omega⟩ ⟨by omega, by omega⟩ dX8_ticks_93 (v := (A.2 5 1)) (hA.2.2.2.2.2.2 1 (by omega)) ?_
    refine wp_iast 75 rfl rfl ⟨by omega, by omega⟩ ⟨by omega, by omega⟩ dX8_ticks_94 (jn := 0) rfl ?_
    refine wp_iinc (loc' := [(2, 69), (0, gn), (0, 1), u3]) dX8_ticks_95 rfl (by omega) rfl ?_
    refine wp_goto (tgt := 73) dX8_ticks_98 (by decide) ?_
    refine wp_iload_n dX8_ticks_73 rfl rfl ?_
    refine wp_aload_n dX8_ticks_74 rfl rfl ?_
    refine wp_get 69 rfl fl_RX8_123 rfl ⟨by omega, by omega⟩ dX8_ticks_75 rfl (v := 4) (rfl) ?_
    refine wp_icmp_ge (tgt := 101) dX8_ticks_78 (by decide) (fun h => absurd h (by decide)) (fun _ => ?_)
    refine wp_aload_n dX8_ticks_81 rfl rfl ?_
    refine wp_get 69 rfl fl_RX8_29 rfl ⟨by omega, by omega⟩ dX8_ticks_82 rfl (v := 75) (sr_69_11 (M := M) hR) ?_
    refine wp_iload_n dX8_ticks_85 rfl rfl ?_
    refine wp_aload_n dX8_ticks_86 rfl rfl ?_
    refine wp_get 69 rfl fl_RX8_29 rfl ⟨by omega, by omega⟩ dX8_ticks_87 rfl (v := 75) (sr_69_11 (M := M) hR) ?_
    refine wp_iload_n dX8_ticks_90 rfl rfl ?_
    refine wp_iconst dX8_ticks_91 (by decide) ?_
    refine wp_iadd dX8_ticks_92 (by omega) ?_
    refine wp_iald 75 rfl rfl ⟨by omega, by omega⟩ ⟨by omega, by omega⟩ dX8_ticks_93 (v := (M 75 2)) (rfl) ?_
    refine wp_iast 75 rfl rfl ⟨by omega, by omega⟩ ⟨by omega, by omega⟩ dX8_ticks_94 (jn := 1) rfl ?_
    refine wp_iinc (loc' := [(2, 69), (0, gn), (0, 2), u3]) dX8_ticks_95 rfl (by omega) rfl ?_
    refine wp_goto (tgt := 73) dX8_ticks_98 (by decide) ?_
    refine wp_iload_n dX8_ticks_73 rfl rfl ?_
    refine wp_aload_n dX8_ticks_74 rfl rfl ?_
    refine wp_get 69 rfl fl_RX8_123 rfl ⟨by omega, by omega⟩ dX8_ticks_75 rfl (v := 4) (rfl) ?_
    refine wp_icmp_ge (tgt := 101) dX8_ticks_78 (by decide) (fun h => absurd h (by decide)) (fun _ => ?_)
    refine wp_aload_n dX8_ticks_81 rfl rfl ?_
    refine wp_get 69 rfl fl_RX8_29 rfl ⟨by omega, by omega⟩ dX8_ticks_82 rfl (v := 75) (sr_69_11 (M := M) hR) ?_
    refine wp_iload_n dX8_ticks_85 rfl rfl ?_
    refine wp_aload_n dX8_ticks_86 rfl rfl ?_
    refine wp_get 69 rfl fl_RX8_29 rfl ⟨by omega, by omega⟩ dX8_ticks_87 rfl (v := 75) (sr_69_11 (M := M) hR) ?_
    refine wp_iload_n dX8_ticks_90 rfl rfl ?_
    refine wp_iconst dX8_ticks_91 (by decide) ?_
    refine wp_iadd dX8_ticks_92 (by omega) ?_
    refine wp_iald 75 rfl rfl ⟨by omega, by omega⟩ ⟨by omega, by omega⟩ dX8_ticks_93 (v := (M 75 3)) (rfl) ?_
    refine wp_iast 75 rfl rfl ⟨by omega, by omega⟩ ⟨by omega, by omega⟩ dX8_ticks_94 (jn := 2) rfl ?_
    refine wp_iinc (loc' := [(2, 69), (0, gn), (0, 3), u3]) dX8_ticks_95 rfl (by omega) rfl ?_
    refine wp_goto (tgt := 73) dX8_ticks_98 (by decide) ?_
    refine wp_iload_n dX8_ticks_73 rfl rfl ?_
    refine wp_aload_n dX8_ticks_74 rfl rfl ?_
    refine wp_get 69 rfl fl_RX8_123 rfl ⟨by omega, by omega⟩ dX8_ticks_75 rfl (v := 4) (rfl) ?_
    refine wp_icmp_ge (tgt := 101) dX8_ticks_78 (by decide) (fun h => absurd h (by decide)) (fun _ => ?_)
    refine wp_aload_n dX8_ticks_81 rfl rfl ?_
    refine wp_get 69 rfl fl_RX8_29 rfl ⟨by omega, by omega⟩ dX8_ticks_82 rfl (v := 75) (sr_69_11 (M := M) hR) ?_
    refine wp_iload_n dX8_ticks_85 rfl rfl ?_
    refine wp_aload_n dX8_ticks_86 rfl rfl ?_
    refine wp_get 69 rfl fl_RX8_29 rfl ⟨by omega, by omega⟩ dX8_ticks_87 rfl (v := 75) (sr_69_11 (M := M) hR) ?_
    refine wp_iload_n dX8_ticks_90 rfl rfl ?_
    refine wp_iconst dX8_ticks_91 (by decide) ?_
    refine wp_iadd dX8_ticks_92 (by omega) ?_
    refine wp_iald 75 rfl rfl ⟨by omega, by omega⟩ ⟨by omega, by omega⟩ dX8_ticks_93 (v := (M 75 4)) (rfl) ?_
    refine wp_iast 75 rfl rfl ⟨by omega, by omega⟩ ⟨by omega, by omega⟩ dX8_ticks_94 (jn := 3) rfl ?_
    refine wp_iinc (loc' := [(2, 69), (0, gn), (0, 4), u3]) dX8_ticks_95 rfl (by omega) rfl ?_
    refine wp_goto (tgt := 73) dX8_ticks_98 (by decide) ?_
    refine wp_iload_n dX8_ticks_73 rfl rfl ?_
    refine wp_aload_n dX8_ticks_74 rfl rfl ?_
    refine wp_get 69 rfl fl_RX8_123 rfl ⟨by omega, by omega⟩ dX8_ticks_75 rfl (v := 4) (rfl) ?_
    refine wp_icmp_ge (tgt := 101) dX8_ticks_78 (by decide) (fun _ => ?_) (fun h => absurd h (by decide))
    have f1 : Fr VMd M (mu (mu (mu (mu (mu M 69 12 4) 75 0 (A.2 5 1)) 75 1 (M 75 2)) 75 2 (M 75 3)) 75 3 (M 75 4)) := ((((((Fr.rf : Fr VMd M M).put (Or.inr ⟨rfl, rfl⟩)).put (Or.inl rfl)).put (Or.inl rfl)).put (Or.inl rfl)).put (Or.inl rfl))
    refine k _ _ (hA.dropm f1 ?_ ?_) f1
    · rw [h5]; rfl
    · intro q hq
      rcases (show q = 0 ∨ q = 1 ∨ q = 2 ∨ q = 3 by omega) with rfl | rfl | rfl | rfl
      · first | rfl | exact hA.2.2.2.2.2.2 1 (by omega)
      · first | rfl | exact hA.2.2.2.2.2.2 2 (by omega)
      · first | rfl | exact hA.2.2.2.2.2.2 3 (by omega)
      · first | rfl | exact hA.2.2.2.2.2.2 4 (by omega)
set_option maxRecDepth 20000 in
set_option maxHeartbeats 4000000 in
theorem sp_tkm {l : Launch} {g : Gw} {d n : Nat} {M : Mm} {Q : Option Wd → Mm → Prop} (hn : 90 ≤ n) {A : Ls} {E : Ev} (hI : MJ M A E) (hd : 66 ≤ d) (k : ∀ M', MJ M' (tickA E A).1 E → Fr VMl M M' → Q (some (0, (tickA E A).2)) M') : Wp l g d 0 0 n m_X8_ticks 0 [] [(2, 69), (9, 0), (9, 0), (9, 0)] M Q := by
  obtain ⟨hR, hA, hW, hr, hX⟩ := id hI
  have w2 := hW.1
  have w5 := hW.2.1
  have w3 := hW.2.2.1
  have w32 := hW.2.2.2.1
  refine wp_iconst dX8_ticks_0 (by decide) ?_
  refine wp_istore_n (loc' := [(2, 69), (0, (-1)), (9, 0), (9, 0)]) dX8_ticks_1 rfl (Nat.le_of_ble_eq_true rfl) rfl ?_
  refine wp_aload_n dX8_ticks_2 rfl rfl ?_
  refine wp_get 69 rfl fl_RX8_123 rfl ⟨by omega, by omega⟩ dX8_ticks_3 rfl (v := (A.1 3)) (hA.2.2.2.1) ?_
  refine wp_if_le (tgt := 56) dX8_ticks_6 (by decide) (fun h6 => ?_) (fun h6 => ?_)
  · refine wp_iload_n dX8_ticks_56 rfl rfl ?_
    refine wp_iconst dX8_ticks_57 (by decide) ?_
    refine wp_icmp_eq (tgt := 101) dX8_ticks_58 (by decide) (fun _ => ?_) (fun h => absurd h (by decide))
    refine wp_aload_n dX8_ticks_101 rfl rfl ?_
    refine wp_dup dX8_ticks_102 (Or.inr rfl) ?_
    refine wp_get 69 rfl fl_RX8_113 rfl ⟨by omega, by omega⟩ dX8_ticks_103 rfl (v := (A.1 0)) (hA.1) ?_
    refine wp_iconst dX8_ticks_106 (by decide) ?_
    refine wp_iaddw dX8_ticks_107 ?_
    refine wp_puti 69 rfl fl_RX8_113 rfl ⟨by omega, by omega⟩ dX8_ticks_108 rfl rfl ?_
    refine wp_iload_n dX8_ticks_111 rfl rfl ?_
    refine wp_iret rfl dX8_ticks_112 ?_
    have e : tickA E A = (minA A, -1) := if_neg (by omega)
    rw [e] at k
    have g1 : Fr VMl M (mu M 69 7 (wrap ((A.1 0) + 1))) := Fr.rf.put (by unfold VMl VMs; omega)
    exact k _ (hI.new g1 hA.minm hW.min hr) g1
  · have v0 := hW.2.2.2.2.1 0 (by omega)
    replace h6 : 0 < A.1 3 := by omega
    refine wp_aload_n dX8_ticks_9 rfl rfl ?_
    refine wp_get 69 rfl fl_RX8_29 rfl ⟨by omega, by omega⟩ dX8_ticks_10 rfl (v := 75) (sr_69_11 (M := M) hR) ?_
    refine wp_iconst dX8_ticks_13 (by decide) ?_
    refine wp_iald 75 rfl rfl ⟨by omega, by omega⟩ ⟨by omega, by omega⟩ dX8_ticks_14 (v := (A.2 5 0)) (hA.2.2.2.2.2.2 0 (by omega)) ?_
    refine wp_istore_n (loc' := [(2, 69), (0, (-1)), (0, (A.2 5 0)), (9, 0)]) dX8_ticks_15 rfl (Nat.le_of_ble_eq_true rfl) rfl ?_
    refine wp_aload_n dX8_ticks_16 rfl rfl ?_
    refine wp_iload_n dX8_ticks_17 rfl rfl ?_
    refine wp_callV0 (d' := d - 1) cv_RX8_135 69 rfl [(0, (A.2 5 0))] [] rfl rfl (Or.inl ⟨_, _, rfl, by decide, rfl, by omega, by omega⟩) (by omega) (Nat.le_of_ble_eq_true rfl) dX8_ticks_18 rfl (Nat.le_of_ble_eq_true rfl) (by omega) (loc1 := [(2, 69), (0, (A.2 5 0)), (9, 0), (9, 0)]) rfl ?_
    refine sp_lsm hn hI (by omega) (A.2 5 0) v0 (fun M1 F1 => ?_)
    have I1 := hI.frs F1
    obtain ⟨R1, A1, _, _, _⟩ := id I1
    refine wp_istore_n (loc' := [(2, 69), (0, (-1)), (0, (A.2 5 0)), (0, (lastsA E A (A.2 5 0)))]) dX8_ticks_21 rfl (Nat.le_of_ble_eq_true rfl) rfl ?_
    refine wp_aload_n dX8_ticks_22 rfl rfl ?_
    refine wp_get 69 rfl fl_RX8_26 rfl ⟨by omega, by omega⟩ dX8_ticks_23 rfl (v := 74) (sr_69_9 (M := M1) R1) ?_
    refine wp_iconst dX8_ticks_26 (by decide) ?_
    refine wp_iload_n dX8_ticks_27 rfl rfl ?_
    refine wp_imul dX8_ticks_28 (by omega) ?_
    refine wp_iconst dX8_ticks_29 (by decide) ?_
    refine wp_iadd dX8_ticks_30 (by omega) ?_
    refine wp_dup2 dX8_ticks_31 (Or.inl rfl) (Or.inr rfl) ?_
    refine wp_iald 74 rfl rfl ⟨by omega, by omega⟩ ⟨by omega, by omega⟩ dX8_ticks_32 (v := (A.2 4 (A.2 5 0).toNat)) (by rw [show (((4 * (A.2 5 0)) + 3)).toNat = (4 * (A.2 5 0).toNat + 3) by omega]; exact A1.2.2.2.2.2.1 3 (A.2 5 0).toNat (by omega) (by omega)) ?_
    refine wp_iconst dX8_ticks_33 (by decide) ?_
    refine wp_iaddw dX8_ticks_34 ?_
    refine wp_iast 74 rfl rfl ⟨by omega, by omega⟩ ⟨by omega, by omega⟩ dX8_ticks_35 (jn := (4 * (A.2 5 0).toNat + 3)) (by omega) ?_
    refine wp_aload_n dX8_ticks_36 rfl rfl ?_
    refine wp_get 69 rfl fl_RX8_26 rfl ⟨by omega, by omega⟩ dX8_ticks_37 rfl (v := 74) (sr_69_9 (M := M1) R1) ?_
    refine wp_iconst dX8_ticks_40 (by decide) ?_
    refine wp_iload_n dX8_ticks_41 rfl rfl ?_
    refine wp_imul dX8_ticks_42 (by omega) ?_
    refine wp_iconst dX8_ticks_43 (by decide) ?_
    refine wp_iadd dX8_ticks_44 (by omega) ?_
    refine wp_iald 74 rfl rfl ⟨by omega, by omega⟩ ⟨by omega, by omega⟩ dX8_ticks_45 (v := (wrap ((A.2 4 (A.2 5 0).toNat) + 1))) (by rw [show (((4 * (A.2 5 0)) + 3)).toNat = (4 * (A.2 5 0).toNat + 3) by omega]; simp [mu]) ?_
    refine wp_iload_n dX8_ticks_46 rfl rfl ?_
    refine wp_icmp_lt (tgt := 54) dX8_ticks_47 (by decide) (fun h47 => ?_) (fun h47 => ?_)
    · refine wp_iconst dX8_ticks_54 (by decide) ?_
      refine wp_istore_n (loc' := [(2, 69), (0, (-1)), (0, (A.2 5 0)), (0, (lastsA E A (A.2 5 0)))]) dX8_ticks_55 rfl (Nat.le_of_ble_eq_true rfl) rfl ?_
      refine wp_iload_n dX8_ticks_56 rfl rfl ?_
      refine wp_iconst dX8_ticks_57 (by decide) ?_
      refine wp_icmp_eq (tgt := 101) dX8_ticks_58 (by decide) (fun _ => ?_) (fun h => absurd h (by decide))
      refine wp_aload_n dX8_ticks_101 rfl rfl ?_
      refine wp_dup dX8_ticks_102 (Or.inr rfl) ?_
      refine wp_get 69 rfl fl_RX8_113 rfl ⟨by omega, by omega⟩ dX8_ticks_103 rfl (v := (A.1 0)) (A1.1) ?_
      refine wp_iconst dX8_ticks_106 (by decide) ?_
      refine wp_iaddw dX8_ticks_107 ?_
      refine wp_puti 69 rfl fl_RX8_113 rfl ⟨by omega, by omega⟩ dX8_ticks_108 rfl rfl ?_
      refine wp_iload_n dX8_ticks_111 rfl rfl ?_
      refine wp_iret rfl dX8_ticks_112 ?_
      have e : tickA E A = (minA (serveA A (A.2 5 0).toNat), -1) := (if_pos (by omega)).trans (if_neg (by omega))
      rw [e] at k
      have g1 : Fr VMl M (mu (mu M1 74 (4 * (A.2 5 0).toNat + 3) (wrap ((A.2 4 (A.2 5 0).toNat) + 1))) 69 7 (wrap ((A.1 0) + 1))) := ((F1.mono VMs.l).put (by unfold VMl VMs; omega)).put (by unfold VMl VMs; omega)
      exact k _ (hI.new g1 ((A1.serve (by omega)).minm) (hW.serve _).min hr) g1
    · refine wp_iload_n dX8_ticks_50 rfl rfl ?_
      refine wp_goto (tgt := 55) dX8_ticks_51 (by decide) ?_
      refine wp_istore_n (loc' := [(2, 69), (0, (A.2 5 0)), (0, (A.2 5 0)), (0, (lastsA E A (A.2 5 0)))]) dX8_ticks_55 rfl (Nat.le_of_ble_eq_true rfl) rfl ?_
      refine wp_iload_n dX8_ticks_56 rfl rfl ?_
      refine wp_iconst dX8_ticks_57 (by decide) ?_
      refine wp_icmp_eq (tgt := 101) dX8_ticks_58 (by decide) (fun h => absurd h (by omega)) (fun _ => ?_)
      have g0 : Fr VMl M (mu M1 74 (4 * (A.2 5 0).toNat + 3) (wrap ((A.2 4 (A.2 5 0).toNat) + 1))) := (F1.mono VMs.l).put (by unfold VMl VMs; omega)
      refine lp_tdr hn (A := serveA A (A.2 5 0).toNat) (VMl.sr g0 hR) (A1.serve (by omega)) (show 1 ≤ A.1 3 ∧ A.1 3 ≤ 5 by omega) (fun M3 v3 a3 f3 => ?_)
      have R3 : SR M3 := VMl.sr (g0.tr (f3.mono VMd.l)) hR
      refine wp_aload_n dX8_ticks_101 rfl rfl ?_
      refine wp_dup dX8_ticks_102 (Or.inr rfl) ?_
      refine wp_get 69 rfl fl_RX8_113 rfl ⟨by omega, by omega⟩ dX8_ticks_103 rfl (v := (A.1 0)) (a3.1) ?_
      refine wp_iconst dX8_ticks_106 (by decide) ?_
      refine wp_iaddw dX8_ticks_107 ?_
      refine wp_puti 69 rfl fl_RX8_113 rfl ⟨by omega, by omega⟩ dX8_ticks_108 rfl rfl ?_
      refine wp_iload_n dX8_ticks_111 rfl rfl ?_
      refine wp_iret rfl dX8_ticks_112 ?_
      have e : tickA E A = (minA (dropA (serveA A (A.2 5 0).toNat)), A.2 5 0) := (if_pos (by omega)).trans (if_pos (by omega))
      rw [e] at k
      have g1 : Fr VMl M (mu M3 69 7 (wrap ((A.1 0) + 1))) := ((((F1.mono VMs.l).put (by unfold VMl VMs; omega)).tr (f3.mono VMd.l))).put (by unfold VMl VMs; omega)
      exact k _ (hI.new g1 a3.minm ((hW.serve _).drop h6).min hr) g1
set_option maxRecDepth 20000 in
set_option maxHeartbeats 4000000 in
theorem cm_minute {l : Launch} {g : Gw} {d n : Nat} {M : Mm} {Q : Option Wd → Mm → Prop} (hn : 90 ≤ n) {A : Ls} {E : Ev} (hI : MJ M A E) (hd : 70 ≤ d) (kS : A.1 0 = 999 → Q (some (0, -3)) M) (k : A.1 0 ≠ 999 → ∀ M', MJ M' (tickA E A).1 E → Fr VMl M M' → Q (some (0, (tickA E A).2)) M') : Wp l g d 0 0 n m_X8_minute 0 [] [(2, 69)] M Q := by
  obtain ⟨hR, hA, hW, hr, hX⟩ := id hI
  have w2 := hW.1
  have w5 := hW.2.1
  have w3 := hW.2.2.1
  have w32 := hW.2.2.2.1
  refine wp_aload_n dX8_minute_0 rfl rfl ?_
  refine wp_get 69 rfl fl_RX8_113 rfl ⟨by omega, by omega⟩ dX8_minute_1 rfl (v := (A.1 0)) (hA.1) ?_
  refine wp_sipush dX8_minute_4 (by decide) (by decide) ?_
  refine wp_icmp_ne (tgt := 15) dX8_minute_7 (by decide) (fun h7 => ?_) (fun h7 => ?_)
  · refine wp_aload_n dX8_minute_15 rfl rfl ?_
    refine wp_callV0 (d' := d - 1) cv_RX8_368 69 rfl [] [] rfl rfl (Or.inl ⟨_, _, rfl, by decide, rfl, by omega, by omega⟩) (by omega) (Nat.le_of_ble_eq_true rfl) dX8_minute_16 rfl (Nat.le_of_ble_eq_true rfl) (by omega) (loc1 := [(2, 69), (9, 0), (9, 0), (9, 0)]) rfl ?_
    refine sp_tkm hn hI (by omega) (fun M1 I1 F1 => ?_)
    refine wp_iret rfl dX8_minute_19 ?_
    exact k (by omega) M1 I1 F1
  · refine wp_bipush dX8_minute_10 (by decide) (by decide) ?_
    refine wp_goto (tgt := 19) dX8_minute_12 (by decide) ?_
    refine wp_iret rfl dX8_minute_19 ?_
    exact kS (by omega)
def comA (A : Ls) (x : Int) : Ls := (fun k => if k = 3 then A.1 3 + 1 else A.1 k, mu (mu A.2 4 x.toNat 0) 5 (A.1 3).toNat x)
theorem Rm.com {M : Mm} {A : Ls} (h : Rm M A) {x : Int} {L : Nat} (hL : A.1 3 = (L : Int)) : Rm (mu (mu (mu M 74 (4 * x.toNat + 3) 0) 75 L x) 69 12 ((L : Int) + 1)) (comA A x) := by
  have n3 : (A.1 3).toNat = L := by omega
  obtain ⟨a, b, c, d, xx, y, z⟩ := h.setR (r := 3) (i := x.toNat) (v := 0) (by omega)
  refine ⟨a, b, c, ?_, fun k hk => xx k hk, fun s k hs hk => ?_, fun q hq => ?_⟩
  · show (L : Int) + 1 = A.1 3 + 1
    omega
  · show mu M 74 (4 * x.toNat + 3) 0 74 (4 * k + s) = mu (mu A.2 4 x.toNat 0) 5 (A.1 3).toNat x (s + 1) k
    rw [mu_ne (mu A.2 4 x.toNat 0) _ _ (show s + 1 ≠ 5 by omega)]
    exact y s k hs hk
  · have hq : (q : Int) < A.1 3 + 1 := hq
    show mu (mu M 74 (4 * x.toNat + 3) 0) 75 L x 75 q = mu (mu A.2 4 x.toNat 0) 5 (A.1 3).toNat x 5 q
    rw [n3]
    by_cases e : q = L
    · subst e
      rw [mu_self, mu_self]
    · rw [mu_nj _ _ _ e, mu_nj _ _ _ e]
      exact z q (show (q : Int) < A.1 3 by omega)
theorem Wf.com {A : Ls} (h : Wf A) {x : Int} (hx : 0 ≤ x ∧ x < A.1 2) (hp : plA A x = -1) : Wf (comA A x) := by
  have hrm := room_ h hx hp
  have hno := fst_no (f := A.2 5) (x := x) (A.1 3).toNat 0 hp
  obtain ⟨w0, w1, w2, w3, w4, w5, w6⟩ := h
  have e5 : ∀ q : Nat, (comA A x).2 5 q = if q = (A.1 3).toNat then x else A.2 5 q := by
    intro q
    show mu (mu A.2 4 x.toNat 0) 5 (A.1 3).toNat x 5 q = _
    by_cases e : q = (A.1 3).toNat
    · rw [if_pos e, e, mu_self]
    · rw [if_neg e, mu_nj _ _ _ e, mu_ne _ _ _ (by omega)]
  refine ⟨w0, w1, ?_, ?_, fun q hq => ?_, fun p q hpq hq => ?_, fun i hi => ?_⟩
  · show 0 ≤ A.1 3 + 1
    omega
  · show A.1 3 + 1 ≤ A.1 2
    omega
  · have hq : (q : Int) < A.1 3 + 1 := hq
    rw [e5]
    show _ ∧ _ < A.1 2
    split
    · exact hx
    · exact w4 q (by omega)
  · have hq : (q : Int) < A.1 3 + 1 := hq
    rw [e5, e5, if_neg (by omega)]
    split
    · exact hno p (by omega) (by omega)
    · exact w5 p q hpq (by omega)
  · show 0 ≤ mu (mu A.2 4 x.toNat 0) 5 (A.1 3).toNat x 0 i ∧ mu (mu A.2 4 x.toNat 0) 5 (A.1 3).toNat x 0 i ≤ 5
    rw [mu_ne _ _ _ (by omega), mu_ne _ _ _ (by omega)]
    exact w6 i hi
set_option maxRecDepth 20000 in
set_option maxHeartbeats 4000000 in
theorem cm_come {l : Launch} {g : Gw} {d n : Nat} {M : Mm} {Q : Option Wd → Mm → Prop} (hn : 90 ≤ n) {A : Ls} {E : Ev} (hI : MJ M A E) (hd : 70 ≤ d) (x : Int) (kB : ¬ (0 ≤ x ∧ x < A.1 2) → Q (some (0, -2)) M) (kS : (0 ≤ x ∧ x < A.1 2) → plA A x ≠ -1 → Q (some (0, -3)) M) (k : (0 ≤ x ∧ x < A.1 2) → plA A x = -1 → ∀ M', MJ M' (comA A x) E → Fr VMl M M' → Q (some (0, A.1 3)) M') : Wp l g d 0 0 n m_X8_come 0 [] [(2, 69), (0, x)] M Q := by
  obtain ⟨hR, hA, hW, hr, hX⟩ := id hI
  have w2 := hW.1
  have w5 := hW.2.1
  have w3 := hW.2.2.1
  have w32 := hW.2.2.2.1
  obtain ⟨L, hL⟩ := Int.eq_ofNat_of_zero_le w3
  refine wp_aload_n dX8_come_0 rfl rfl ?_
  refine wp_iload_n dX8_come_1 rfl rfl ?_
  refine wp_callV0 (d' := d - 1) cv_RX8_97 69 rfl [(0, x)] [] rfl rfl (Or.inl ⟨_, _, rfl, by decide, rfl, by omega, by omega⟩) (by omega) (Nat.le_of_ble_eq_true rfl) dX8_come_2 rfl (Nat.le_of_ble_eq_true rfl) (by omega) (loc1 := [(2, 69), (0, x)]) rfl ?_
  refine sp_isOne hn hI (by omega) x (fun o2 => ?_) (fun o2 => ?_)
  · refine wp_if_ne (tgt := 11) dX8_come_5 (by decide) (fun _ => ?_) (fun h => absurd h (by decide))
    refine wp_aload_n dX8_come_11 rfl rfl ?_
    refine wp_iload_n dX8_come_12 rfl rfl ?_
    refine wp_callV0 (d' := d - 1) cv_RX8_132 69 rfl [(0, x)] [] rfl rfl (Or.inl ⟨_, _, rfl, by decide, rfl, by omega, by omega⟩) (by omega) (Nat.le_of_ble_eq_true rfl) dX8_come_13 rfl (Nat.le_of_ble_eq_true rfl) (by omega) (loc1 := [(2, 69), (0, x), (9, 0)]) rfl ?_
    refine sp_plm hn hI x ?_
    refine wp_iconst dX8_come_16 (by decide) ?_
    refine wp_icmp_eq (tgt := 23) dX8_come_17 (by decide) (fun h17 => ?_) (fun h17 => ?_)
    · have hrm := room_ hW (by omega) h17
      refine wp_aload_n dX8_come_23 rfl rfl ?_
      refine wp_get 69 rfl fl_RX8_26 rfl ⟨by omega, by omega⟩ dX8_come_24 rfl (v := 74) (sr_69_9 (M := M) hR) ?_
      refine wp_iconst dX8_come_27 (by decide) ?_
      refine wp_iload_n dX8_come_28 rfl rfl ?_
      refine wp_imul dX8_come_29 (by omega) ?_
      refine wp_iconst dX8_come_30 (by decide) ?_
      refine wp_iadd dX8_come_31 (by omega) ?_
      refine wp_iconst dX8_come_32 (by decide) ?_
      refine wp_iast 74 rfl rfl ⟨by omega, by omega⟩ ⟨by omega, by omega⟩ dX8_come_33 (jn := (4 * x.toNat + 3)) (by omega) ?_
      refine wp_aload_n dX8_come_34 rfl rfl ?_
      refine wp_get 69 rfl fl_RX8_29 rfl ⟨by omega, by omega⟩ dX8_come_35 rfl (v := 75) (sr_69_11 (M := M) hR) ?_
      refine wp_aload_n dX8_come_38 rfl rfl ?_
      refine wp_get 69 rfl fl_RX8_123 rfl ⟨by omega, by omega⟩ dX8_come_39 rfl (v := (L : Int)) ((hA.2.2.2.1.trans hL)) ?_
      refine wp_iload_n dX8_come_42 rfl rfl ?_
      refine wp_iast 75 rfl rfl ⟨by omega, by omega⟩ ⟨by omega, by omega⟩ dX8_come_43 (jn := L) rfl ?_
      refine wp_aload_n dX8_come_44 rfl rfl ?_
      refine wp_dup dX8_come_45 (Or.inr rfl) ?_
      refine wp_get 69 rfl fl_RX8_123 rfl ⟨by omega, by omega⟩ dX8_come_46 rfl (v := (L : Int)) ((hA.2.2.2.1.trans hL)) ?_
      refine wp_iconst dX8_come_49 (by decide) ?_
      refine wp_iadd dX8_come_50 (by omega) ?_
      refine wp_puti 69 rfl fl_RX8_123 rfl ⟨by omega, by omega⟩ dX8_come_51 rfl rfl ?_
      refine wp_aload_n dX8_come_54 rfl rfl ?_
      refine wp_get 69 rfl fl_RX8_123 rfl ⟨by omega, by omega⟩ dX8_come_55 rfl (v := ((L : Int) + 1)) (rfl) ?_
      refine wp_iconst dX8_come_58 (by decide) ?_
      refine wp_isub dX8_come_59 (by omega) ?_
      refine wp_iret rfl dX8_come_60 ?_
      have g1 : Fr VMl M (mu (mu (mu M 74 (4 * x.toNat + 3) 0) 75 L x) 69 12 ((L : Int) + 1)) := ((Fr.rf.put (by unfold VMl VMs; omega)).put (by unfold VMl VMs; omega)).put (by unfold VMl VMs; omega)
      rw [show ((L : Int) + 1) - 1 = A.1 3 by omega]
      exact k (by omega) h17 _ (hI.new g1 (hA.com hL) (hW.com (by omega) h17) hr) g1
    · refine wp_bipush dX8_come_20 (by decide) (by decide) ?_
      refine wp_iret rfl dX8_come_22 ?_
      exact kS (by omega) (by omega)
  · refine wp_if_ne (tgt := 11) dX8_come_5 (by decide) (fun h => absurd h (by decide)) (fun _ => ?_)
    refine wp_bipush dX8_come_8 (by decide) (by decide) ?_
    refine wp_iret rfl dX8_come_10 ?_
    exact kB (by omega)
set_option maxRecDepth 20000 in
set_option maxHeartbeats 4000000 in
theorem cm_force {l : Launch} {g : Gw} {d n : Nat} {M : Mm} {Q : Option Wd → Mm → Prop} (hn : 90 ≤ n) {A : Ls} {E : Ev} (hI : MJ M A E) (hd : 70 ≤ d) (x : Int) (kB : ¬ (0 ≤ x ∧ x < M 69 3) → Q (some (0, -2)) M) (k : (0 ≤ x ∧ x < M 69 3) → ∀ M', MJ M' (setS A 1 x) E → Fr VMl M M' → Q (some (0, A.1 1)) M') : Wp l g d 0 0 n m_X8_force 0 [] [(2, 69), (0, x), (9, 0)] M Q := by
  obtain ⟨hR, hA, hW, hr, hX⟩ := id hI
  have w2 := hW.1
  have w5 := hW.2.1
  have w3 := hW.2.2.1
  have w32 := hW.2.2.2.1
  have hX1 := hX.1
  have hX2 := hX.2.1
  refine wp_iload_n dX8_force_0 rfl rfl ?_
  refine wp_i2l dX8_force_1 ?_
  refine wp_lconst (v := 0) dX8_force_2 (by decide) (by decide) ?_
  refine wp_aload_n dX8_force_3 rfl rfl ?_
  refine wp_get 69 rfl fl_RX8_85 rfl ⟨by omega, by omega⟩ dX8_force_4 rfl (v := (M 69 3)) (rfl) ?_
  refine wp_iconst dX8_force_7 (by decide) ?_
  refine wp_isub dX8_force_8 (by omega) ?_
  refine wp_i2l dX8_force_9 ?_
  refine wp_callS0 (d' := d - 1) cs_RX8_91 [(1, x), (1, 0), (1, ((M 69 3) - 1))] [] rfl rfl (Nat.le_of_ble_eq_true rfl) dX8_force_10 rfl (Nat.le_of_ble_eq_true rfl) (by omega) (loc1 := [(1, x), (9, 0), (1, 0), (9, 0), (1, ((M 69 3) - 1)), (9, 0)]) rfl ?_
  refine sp_in x 0 ((M 69 3) - 1) (fun i10 => ?_) (fun i10 => ?_)
  · refine wp_if_ne (tgt := 19) dX8_force_13 (by decide) (fun _ => ?_) (fun h => absurd h (by decide))
    refine wp_aload_n dX8_force_19 rfl rfl ?_
    refine wp_get 69 rfl fl_RX8_116 rfl ⟨by omega, by omega⟩ dX8_force_20 rfl (v := (A.1 1)) (hA.2.1) ?_
    refine wp_istore_n (loc' := [(2, 69), (0, x), (0, (A.1 1))]) dX8_force_23 rfl (Nat.le_of_ble_eq_true rfl) rfl ?_
    refine wp_aload_n dX8_force_24 rfl rfl ?_
    refine wp_iload_n dX8_force_25 rfl rfl ?_
    refine wp_puti 69 rfl fl_RX8_116 rfl ⟨by omega, by omega⟩ dX8_force_26 rfl rfl ?_
    refine wp_iload_n dX8_force_29 rfl rfl ?_
    refine wp_iret rfl dX8_force_30 ?_
    have g1 : Fr VMl M (mu M 69 4 x) := Fr.rf.put (by unfold VMl VMs; omega)
    exact k (by omega) _ (hI.new g1 hA.setT (hW.sSet x) (show 0 ≤ x ∧ x < M 69 3 by omega)) g1
  · refine wp_if_ne (tgt := 19) dX8_force_13 (by decide) (fun h => absurd h (by decide)) (fun _ => ?_)
    refine wp_bipush dX8_force_16 (by decide) (by decide) ?_
    refine wp_iret rfl dX8_force_18 ?_
    exact kB (by omega)
set_option maxRecDepth 20000 in
set_option maxHeartbeats 4000000 in
theorem cm_feed {l : Launch} {g : Gw} {d n : Nat} {M : Mm} {Q : Option Wd → Mm → Prop} (hn : 90 ≤ n) (hd : 70 ≤ d) (hR : SR M) (x : Int) (h0 : 0 ≤ M 69 6) (h1 : M 69 6 ≤ 160) (kB : ¬ (0 ≤ x ∧ x ≤ 255) → Q (some (0, -2)) M) (kF : (0 ≤ x ∧ x ≤ 255) → M 69 6 = 160 → Q (some (0, -4)) M) (k : (0 ≤ x ∧ x ≤ 255) → M 69 6 < 160 → Q (some (0, M 69 6 + 1)) (mu (mu M 72 (M 69 6).toNat x) 69 6 (M 69 6 + 1))) : Wp l g d 0 0 n m_X8_feed 0 [] [(2, 69), (0, x)] M Q := by
  refine wp_iload_n dX8_feed_0 rfl rfl ?_
  refine wp_i2l dX8_feed_1 ?_
  refine wp_lconst (v := 0) dX8_feed_2 (by decide) (by decide) ?_
  refine wp_ldc2 (x := 255) dX8_feed_3 kl_RX8_144 (by decide) (wr_l (by omega)) ?_
  refine wp_callS0 (d' := d - 1) cs_RX8_91 [(1, x), (1, 0), (1, 255)] [] rfl rfl (Nat.le_of_ble_eq_true rfl) dX8_feed_6 rfl (Nat.le_of_ble_eq_true rfl) (by omega) (loc1 := [(1, x), (9, 0), (1, 0), (9, 0), (1, 255), (9, 0)]) rfl ?_
  refine sp_in x 0 255 (fun i6 => ?_) (fun i6 => ?_)
  · refine wp_if_ne (tgt := 15) dX8_feed_9 (by decide) (fun _ => ?_) (fun h => absurd h (by decide))
    refine wp_aload_n dX8_feed_15 rfl rfl ?_
    refine wp_get 69 rfl fl_RX8_146 rfl ⟨by omega, by omega⟩ dX8_feed_16 rfl (v := (M 69 6)) (rfl) ?_
    refine wp_sipush dX8_feed_19 (by decide) (by decide) ?_
    refine wp_icmp_ne (tgt := 28) dX8_feed_22 (by decide) (fun h22 => ?_) (fun h22 => ?_)
    · refine wp_aload_n dX8_feed_28 rfl rfl ?_
      refine wp_get 69 rfl fl_RX8_20 rfl ⟨by omega, by omega⟩ dX8_feed_29 rfl (v := 72) (sr_69_5 (M := M) hR) ?_
      refine wp_aload_n dX8_feed_32 rfl rfl ?_
      refine wp_get 69 rfl fl_RX8_146 rfl ⟨by omega, by omega⟩ dX8_feed_33 rfl (v := (M 69 6)) (rfl) ?_
      refine wp_iload_n dX8_feed_36 rfl rfl ?_
      refine wp_iast 72 rfl rfl ⟨by omega, by omega⟩ ⟨by omega, by omega⟩ dX8_feed_37 (jn := (M 69 6).toNat) (by omega) ?_
      refine wp_aload_n dX8_feed_38 rfl rfl ?_
      refine wp_dup dX8_feed_39 (Or.inr rfl) ?_
      refine wp_get 69 rfl fl_RX8_146 rfl ⟨by omega, by omega⟩ dX8_feed_40 rfl (v := (M 69 6)) (rfl) ?_
      refine wp_iconst dX8_feed_43 (by decide) ?_
      refine wp_iadd dX8_feed_44 (by omega) ?_
      refine wp_puti 69 rfl fl_RX8_146 rfl ⟨by omega, by omega⟩ dX8_feed_45 rfl rfl ?_
      refine wp_aload_n dX8_feed_48 rfl rfl ?_
      refine wp_get 69 rfl fl_RX8_146 rfl ⟨by omega, by omega⟩ dX8_feed_49 rfl (v := ((M 69 6) + 1)) (rfl) ?_
      refine wp_iret rfl dX8_feed_52 ?_
      exact k (by omega) (by omega)
    · refine wp_bipush dX8_feed_25 (by decide) (by decide) ?_
      refine wp_iret rfl dX8_feed_27 ?_
      exact kF (by omega) (by omega)
  · refine wp_if_ne (tgt := 15) dX8_feed_9 (by decide) (fun h => absurd h (by decide)) (fun _ => ?_)
    refine wp_bipush dX8_feed_12 (by decide) (by decide) ?_
    refine wp_iret rfl dX8_feed_14 ?_
    exact kB (by omega)
def cntM (M : Mm) (w : Int) : Int := if w = 0 then M 69 10 else if w = 1 then M 69 12 else if w = 2 then M 69 7 else if w = 3 then M 69 3 else if w = 4 then M 69 6 else if w = 5 then M 69 4 else -2
set_option maxRecDepth 20000 in
set_option maxHeartbeats 4000000 in
theorem cm_count {l : Launch} {g : Gw} {d n : Nat} {M : Mm} {Q : Option Wd → Mm → Prop} (hn : 90 ≤ n) (hd : 70 ≤ d) (hR : SR M) (w : Int) (k : Q (some (0, cntM M w)) M) : Wp l g d 0 0 n m_X8_count 0 [] [(2, 69), (0, w)] M Q := by
  refine wp_iload_n dX8_count_0 rfl rfl ?_
  refine wp_i2l dX8_count_1 ?_
  refine wp_lconst (v := 0) dX8_count_2 (by decide) (by decide) ?_
  refine wp_ldc2 (x := 5) dX8_count_3 kl_RX8_119 (by decide) (wr_l (by omega)) ?_
  refine wp_callS0 (d' := d - 1) cs_RX8_91 [(1, w), (1, 0), (1, 5)] [] rfl rfl (Nat.le_of_ble_eq_true rfl) dX8_count_6 rfl (Nat.le_of_ble_eq_true rfl) (by omega) (loc1 := [(1, w), (9, 0), (1, 0), (9, 0), (1, 5), (9, 0)]) rfl ?_
  refine sp_in w 0 5 (fun i6 => ?_) (fun i6 => ?_)
  · refine wp_if_ne (tgt := 15) dX8_count_9 (by decide) (fun _ => ?_) (fun h => absurd h (by decide))
    refine wp_iload_n dX8_count_15 rfl rfl ?_
    refine wp_iconst dX8_count_16 (by decide) ?_
    refine wp_icmp_ge (tgt := 48) dX8_count_17 (by decide) (fun h17 => ?_) (fun h17 => ?_)
    · refine wp_iload_n dX8_count_48 rfl rfl ?_
      refine wp_iconst dX8_count_49 (by decide) ?_
      refine wp_icmp_ne (tgt := 60) dX8_count_50 (by decide) (fun h50 => ?_) (fun h50 => ?_)
      · refine wp_iload_n dX8_count_60 rfl rfl ?_
        refine wp_iconst dX8_count_61 (by decide) ?_
        refine wp_icmp_ne (tgt := 72) dX8_count_62 (by decide) (fun h62 => ?_) (fun h62 => ?_)
        · refine wp_aload_n dX8_count_72 rfl rfl ?_
          refine wp_get 69 rfl fl_RX8_116 rfl ⟨by omega, by omega⟩ dX8_count_73 rfl (v := (M 69 4)) (rfl) ?_
          refine wp_iret rfl dX8_count_76 ?_
          have q : cntM M w = (M 69 4) := by unfold cntM; repeat (first | rw [if_pos (by omega)] | rw [if_neg (by omega)])
          rw [q] at k
          exact k
        · refine wp_aload_n dX8_count_65 rfl rfl ?_
          refine wp_get 69 rfl fl_RX8_146 rfl ⟨by omega, by omega⟩ dX8_count_66 rfl (v := (M 69 6)) (rfl) ?_
          refine wp_goto (tgt := 76) dX8_count_69 (by decide) ?_
          refine wp_iret rfl dX8_count_76 ?_
          have q : cntM M w = (M 69 6) := by unfold cntM; repeat (first | rw [if_pos (by omega)] | rw [if_neg (by omega)])
          rw [q] at k
          exact k
      · refine wp_aload_n dX8_count_53 rfl rfl ?_
        refine wp_get 69 rfl fl_RX8_85 rfl ⟨by omega, by omega⟩ dX8_count_54 rfl (v := (M 69 3)) (rfl) ?_
        refine wp_goto (tgt := 76) dX8_count_57 (by decide) ?_
        refine wp_iret rfl dX8_count_76 ?_
        have q : cntM M w = (M 69 3) := by unfold cntM; repeat (first | rw [if_pos (by omega)] | rw [if_neg (by omega)])
        rw [q] at k
        exact k
    · refine wp_iload_n dX8_count_20 rfl rfl ?_
      refine wp_if_ne (tgt := 31) dX8_count_21 (by decide) (fun h21 => ?_) (fun h21 => ?_)
      · refine wp_iload_n dX8_count_31 rfl rfl ?_
        refine wp_iconst dX8_count_32 (by decide) ?_
        refine wp_icmp_ne (tgt := 43) dX8_count_33 (by decide) (fun h33 => ?_) (fun h33 => ?_)
        · refine wp_aload_n dX8_count_43 rfl rfl ?_
          refine wp_get 69 rfl fl_RX8_113 rfl ⟨by omega, by omega⟩ dX8_count_44 rfl (v := (M 69 7)) (rfl) ?_
          refine wp_iret rfl dX8_count_47 ?_
          have q : cntM M w = (M 69 7) := by unfold cntM; repeat (first | rw [if_pos (by omega)] | rw [if_neg (by omega)])
          rw [q] at k
          exact k
        · refine wp_aload_n dX8_count_36 rfl rfl ?_
          refine wp_get 69 rfl fl_RX8_123 rfl ⟨by omega, by omega⟩ dX8_count_37 rfl (v := (M 69 12)) (rfl) ?_
          refine wp_goto (tgt := 47) dX8_count_40 (by decide) ?_
          refine wp_iret rfl dX8_count_47 ?_
          have q : cntM M w = (M 69 12) := by unfold cntM; repeat (first | rw [if_pos (by omega)] | rw [if_neg (by omega)])
          rw [q] at k
          exact k
      · refine wp_aload_n dX8_count_24 rfl rfl ?_
        refine wp_get 69 rfl fl_RX8_88 rfl ⟨by omega, by omega⟩ dX8_count_25 rfl (v := (M 69 10)) (rfl) ?_
        refine wp_goto (tgt := 47) dX8_count_28 (by decide) ?_
        refine wp_iret rfl dX8_count_47 ?_
        have q : cntM M w = (M 69 10) := by unfold cntM; repeat (first | rw [if_pos (by omega)] | rw [if_neg (by omega)])
        rw [q] at k
        exact k
  · refine wp_if_ne (tgt := 15) dX8_count_9 (by decide) (fun h => absurd h (by decide)) (fun _ => ?_)
    refine wp_bipush dX8_count_12 (by decide) (by decide) ?_
    refine wp_iret rfl dX8_count_14 ?_
    have q : cntM M w = (-2) := by unfold cntM; repeat (first | rw [if_pos (by omega)] | rw [if_neg (by omega)])
    rw [q] at k
    exact k
set_option maxRecDepth 20000 in
set_option maxHeartbeats 4000000 in
theorem cm_taken {l : Launch} {g : Gw} {d n : Nat} {M : Mm} {Q : Option Wd → Mm → Prop} (hn : 90 ≤ n) {A : Ls} {E : Ev} (hI : MJ M A E) (hd : 70 ≤ d) (x y : Int) (k : Q (some (0, tknA A x y)) M) : Wp l g d 0 0 n m_X8_taken 0 [] [(2, 69), (0, x), (0, y), (9, 0)] M Q := by
  obtain ⟨hR, hA, hW, hr, hX⟩ := id hI
  have w2 := hW.1
  have w5 := hW.2.1
  have w3 := hW.2.2.1
  have w32 := hW.2.2.2.1
  refine wp_iload_n dX8_taken_0 rfl rfl ?_
  refine wp_i2l dX8_taken_1 ?_
  refine wp_lconst (v := 0) dX8_taken_2 (by decide) (by decide) ?_
  refine wp_ldc2 (x := 5) dX8_taken_3 kl_RX8_119 (by decide) (wr_l (by omega)) ?_
  refine wp_callS0 (d' := d - 1) cs_RX8_91 [(1, y), (1, 0), (1, 5)] [] rfl rfl (Nat.le_of_ble_eq_true rfl) dX8_taken_6 rfl (Nat.le_of_ble_eq_true rfl) (by omega) (loc1 := [(1, y), (9, 0), (1, 0), (9, 0), (1, 5), (9, 0)]) rfl ?_
  refine sp_in y 0 5 (fun i6 => ?_) (fun i6 => ?_)
  · refine wp_if_ne (tgt := 15) dX8_taken_9 (by decide) (fun _ => ?_) (fun h => absurd h (by decide))
    refine wp_aload_n dX8_taken_15 rfl rfl ?_
    refine wp_iload_n dX8_taken_16 rfl rfl ?_
    refine wp_callV0 (d' := d - 1) cv_RX8_97 69 rfl [(0, x)] [] rfl rfl (Or.inl ⟨_, _, rfl, by decide, rfl, by omega, by omega⟩) (by omega) (Nat.le_of_ble_eq_true rfl) dX8_taken_17 rfl (Nat.le_of_ble_eq_true rfl) (by omega) (loc1 := [(2, 69), (0, x)]) rfl ?_
    refine sp_isOne hn hI (by omega) x (fun o17 => ?_) (fun o17 => ?_)
    · refine wp_if_ne (tgt := 26) dX8_taken_20 (by decide) (fun _ => ?_) (fun h => absurd h (by decide))
      have hk6 := hW.2.2.2.2.2.2 x.toNat (by omega)
      rcases (show A.2 0 x.toNat = 0 ∨ A.2 0 x.toNat = 1 ∨ A.2 0 x.toNat = 2 ∨ A.2 0 x.toNat = 3 ∨ A.2 0 x.toNat = 4 ∨ A.2 0 x.toNat = 5 by omega) with hk | hk | hk | hk | hk | hk
      · refine wp_aload_n dX8_taken_26 rfl rfl ?_
        refine wp_get 69 rfl fl_RX8_23 rfl ⟨by omega, by omega⟩ dX8_taken_27 rfl (v := 73) (sr_69_8 (M := M) hR) ?_
        refine wp_iload_n dX8_taken_30 rfl rfl ?_
        refine wp_iald 73 rfl rfl ⟨by omega, by omega⟩ ⟨by omega, by omega⟩ dX8_taken_31 (v := 0) (by rw [show (x).toNat = x.toNat by omega]; exact ((hA.2.2.2.2.1 x.toNat (by omega)).trans hk)) ?_
        refine wp_istore_n (loc' := [(2, 69), (0, x), (0, y), (0, 0)]) dX8_taken_32 rfl (Nat.le_of_ble_eq_true rfl) rfl ?_
        refine wp_iload_n dX8_taken_33 rfl rfl ?_
        refine wp_iconst dX8_taken_34 (by decide) ?_
        refine wp_icmp_eq (tgt := 51) dX8_taken_35 (by decide) (fun h => absurd h (by decide)) (fun _ => ?_)
        refine wp_iload_n dX8_taken_38 rfl rfl ?_
        refine wp_iload_n dX8_taken_39 rfl rfl ?_
        refine wp_icmp_eq (tgt := 51) dX8_taken_40 (by decide) (fun h40 => ?_) (fun h40 => ?_)
        · refine wp_iload_n dX8_taken_51 rfl rfl ?_
          refine wp_iload_n dX8_taken_52 rfl rfl ?_
          refine wp_icmp_ne (tgt := 67) dX8_taken_53 (by decide) (fun h53 => ?_) (fun h53 => ?_)
          · refine wp_bipush dX8_taken_67 (by decide) (by decide) ?_
            refine wp_iret rfl dX8_taken_69 ?_
            have q : undr (A.2 0 x.toNat) y = false := by rw [hk]; exact decide_eq_false (by rw [show overK 0 = (-1) from rfl, show overK (-1) = 0 from rfl]; omega)
            rw [show tknA A x y = (-13) from (if_neg (by omega)).trans ((if_neg (by omega)).trans (if_neg (by rw [q]; decide)))] at k
            exact k
          · refine wp_aload_n dX8_taken_56 rfl rfl ?_
            refine wp_get 69 rfl fl_RX8_26 rfl ⟨by omega, by omega⟩ dX8_taken_57 rfl (v := 74) (sr_69_9 (M := M) hR) ?_
            refine wp_iconst dX8_taken_60 (by decide) ?_
            refine wp_iload_n dX8_taken_61 rfl rfl ?_
            refine wp_imul dX8_taken_62 (by omega) ?_
            refine wp_iald 74 rfl rfl ⟨by omega, by omega⟩ ⟨by omega, by omega⟩ dX8_taken_63 (v := (A.2 1 x.toNat)) (by rw [show ((4 * x)).toNat = (4 * x.toNat) by omega]; exact hA.2.2.2.2.2.1 0 x.toNat (by omega) (by omega)) ?_
            refine wp_goto (tgt := 69) dX8_taken_64 (by decide) ?_
            refine wp_iret rfl dX8_taken_69 ?_
            have q : undr (A.2 0 x.toNat) y = true := by rw [hk]; exact decide_eq_true (by rw [show overK 0 = (-1) from rfl, show overK (-1) = 0 from rfl]; omega)
            rw [show tknA A x y = (A.2 1 x.toNat) from (if_neg (by omega)).trans ((if_neg (by omega)).trans (if_pos q))] at k
            exact k
        · refine wp_iload_n dX8_taken_43 rfl rfl ?_
          refine wp_callS0 (d' := d - 1) cs_RX8_475 [(0, 0)] [] rfl rfl (Nat.le_of_ble_eq_true rfl) dX8_taken_44 rfl (Nat.le_of_ble_eq_true rfl) (by omega) (loc1 := [(0, 0)]) rfl ?_
          refine wp_iload_n dX8_over_0 rfl rfl ?_
          refine wp_if_ne (tgt := 8) dX8_over_1 (by decide) (fun h => absurd h (by decide)) (fun _ => ?_)
          refine wp_iconst dX8_over_4 (by decide) ?_
          refine wp_goto (tgt := 27) dX8_over_5 (by decide) ?_
          refine wp_iret rfl dX8_over_27 ?_
          refine wp_istore_n (loc' := [(2, 69), (0, x), (0, y), (0, (-1))]) dX8_taken_47 rfl (Nat.le_of_ble_eq_true rfl) rfl ?_
          refine wp_goto (tgt := 33) dX8_taken_48 (by decide) ?_
          refine wp_iload_n dX8_taken_33 rfl rfl ?_
          refine wp_iconst dX8_taken_34 (by decide) ?_
          refine wp_icmp_eq (tgt := 51) dX8_taken_35 (by decide) (fun _ => ?_) (fun h => absurd h (by decide))
          refine wp_iload_n dX8_taken_51 rfl rfl ?_
          refine wp_iload_n dX8_taken_52 rfl rfl ?_
          refine wp_icmp_ne (tgt := 67) dX8_taken_53 (by decide) (fun h53 => ?_) (fun h53 => ?_)
          · refine wp_bipush dX8_taken_67 (by decide) (by decide) ?_
            refine wp_iret rfl dX8_taken_69 ?_
            have q : undr (A.2 0 x.toNat) y = false := by rw [hk]; exact decide_eq_false (by rw [show overK 0 = (-1) from rfl, show overK (-1) = 0 from rfl]; omega)
            rw [show tknA A x y = (-13) from (if_neg (by omega)).trans ((if_neg (by omega)).trans (if_neg (by rw [q]; decide)))] at k
            exact k
          · refine wp_aload_n dX8_taken_56 rfl rfl ?_
            refine wp_get 69 rfl fl_RX8_26 rfl ⟨by omega, by omega⟩ dX8_taken_57 rfl (v := 74) (sr_69_9 (M := M) hR) ?_
            refine wp_iconst dX8_taken_60 (by decide) ?_
            refine wp_iload_n dX8_taken_61 rfl rfl ?_
            refine wp_imul dX8_taken_62 (by omega) ?_
            refine wp_iald 74 rfl rfl ⟨by omega, by omega⟩ ⟨by omega, by omega⟩ dX8_taken_63 (v := (A.2 1 x.toNat)) (by rw [show ((4 * x)).toNat = (4 * x.toNat) by omega]; exact hA.2.2.2.2.2.1 0 x.toNat (by omega) (by omega)) ?_
            refine wp_goto (tgt := 69) dX8_taken_64 (by decide) ?_
            refine wp_iret rfl dX8_taken_69 ?_
            have q : undr (A.2 0 x.toNat) y = true := by rw [hk]; exact decide_eq_true (by rw [show overK 0 = (-1) from rfl, show overK (-1) = 0 from rfl]; omega)
            rw [show tknA A x y = (A.2 1 x.toNat) from (if_neg (by omega)).trans ((if_neg (by omega)).trans (if_pos q))] at k
            exact k
      · refine wp_aload_n dX8_taken_26 rfl rfl ?_
        refine wp_get 69 rfl fl_RX8_23 rfl ⟨by omega, by omega⟩ dX8_taken_27 rfl (v := 73) (sr_69_8 (M := M) hR) ?_
        refine wp_iload_n dX8_taken_30 rfl rfl ?_
        refine wp_iald 73 rfl rfl ⟨by omega, by omega⟩ ⟨by omega, by omega⟩ dX8_taken_31 (v := 1) (by rw [show (x).toNat = x.toNat by omega]; exact ((hA.2.2.2.2.1 x.toNat (by omega)).trans hk)) ?_
        refine wp_istore_n (loc' := [(2, 69), (0, x), (0, y), (0, 1)]) dX8_taken_32 rfl (Nat.le_of_ble_eq_true rfl) rfl ?_
        refine wp_iload_n dX8_taken_33 rfl rfl ?_
        refine wp_iconst dX8_taken_34 (by decide) ?_
        refine wp_icmp_eq (tgt := 51) dX8_taken_35 (by decide) (fun h => absurd h (by decide)) (fun _ => ?_)
        refine wp_iload_n dX8_taken_38 rfl rfl ?_
        refine wp_iload_n dX8_taken_39 rfl rfl ?_
        refine wp_icmp_eq (tgt := 51) dX8_taken_40 (by decide) (fun h40 => ?_) (fun h40 => ?_)
        · refine wp_iload_n dX8_taken_51 rfl rfl ?_
          refine wp_iload_n dX8_taken_52 rfl rfl ?_
          refine wp_icmp_ne (tgt := 67) dX8_taken_53 (by decide) (fun h53 => ?_) (fun h53 => ?_)
          · refine wp_bipush dX8_taken_67 (by decide) (by decide) ?_
            refine wp_iret rfl dX8_taken_69 ?_
            have q : undr (A.2 0 x.toNat) y = false := by rw [hk]; exact decide_eq_false (by rw [show overK 1 = 0 from rfl, show overK 0 = (-1) from rfl]; omega)
            rw [show tknA A x y = (-13) from (if_neg (by omega)).trans ((if_neg (by omega)).trans (if_neg (by rw [q]; decide)))] at k
            exact k
          · refine wp_aload_n dX8_taken_56 rfl rfl ?_
            refine wp_get 69 rfl fl_RX8_26 rfl ⟨by omega, by omega⟩ dX8_taken_57 rfl (v := 74) (sr_69_9 (M := M) hR) ?_
            refine wp_iconst dX8_taken_60 (by decide) ?_
            refine wp_iload_n dX8_taken_61 rfl rfl ?_
            refine wp_imul dX8_taken_62 (by omega) ?_
            refine wp_iald 74 rfl rfl ⟨by omega, by omega⟩ ⟨by omega, by omega⟩ dX8_taken_63 (v := (A.2 1 x.toNat)) (by rw [show ((4 * x)).toNat = (4 * x.toNat) by omega]; exact hA.2.2.2.2.2.1 0 x.toNat (by omega) (by omega)) ?_
            refine wp_goto (tgt := 69) dX8_taken_64 (by decide) ?_
            refine wp_iret rfl dX8_taken_69 ?_
            have q : undr (A.2 0 x.toNat) y = true := by rw [hk]; exact decide_eq_true (by rw [show overK 1 = 0 from rfl, show overK 0 = (-1) from rfl]; omega)
            rw [show tknA A x y = (A.2 1 x.toNat) from (if_neg (by omega)).trans ((if_neg (by omega)).trans (if_pos q))] at k
            exact k
        · refine wp_iload_n dX8_taken_43 rfl rfl ?_
          refine wp_callS0 (d' := d - 1) cs_RX8_475 [(0, 1)] [] rfl rfl (Nat.le_of_ble_eq_true rfl) dX8_taken_44 rfl (Nat.le_of_ble_eq_true rfl) (by omega) (loc1 := [(0, 1)]) rfl ?_
          refine wp_iload_n dX8_over_0 rfl rfl ?_
          refine wp_if_ne (tgt := 8) dX8_over_1 (by decide) (fun _ => ?_) (fun h => absurd h (by decide))
          refine wp_iload_n dX8_over_8 rfl rfl ?_
          refine wp_iconst dX8_over_9 (by decide) ?_
          refine wp_icmp_ne (tgt := 17) dX8_over_10 (by decide) (fun _ => ?_) (fun h => absurd h (by decide))
          refine wp_iload_n dX8_over_17 rfl rfl ?_
          refine wp_iconst dX8_over_18 (by decide) ?_
          refine wp_icmp_ne (tgt := 26) dX8_over_19 (by decide) (fun _ => ?_) (fun h => absurd h (by decide))
          refine wp_iconst dX8_over_26 (by decide) ?_
          refine wp_iret rfl dX8_over_27 ?_
          refine wp_istore_n (loc' := [(2, 69), (0, x), (0, y), (0, 0)]) dX8_taken_47 rfl (Nat.le_of_ble_eq_true rfl) rfl ?_
          refine wp_goto (tgt := 33) dX8_taken_48 (by decide) ?_
          refine wp_iload_n dX8_taken_33 rfl rfl ?_
          refine wp_iconst dX8_taken_34 (by decide) ?_
          refine wp_icmp_eq (tgt := 51) dX8_taken_35 (by decide) (fun h => absurd h (by decide)) (fun _ => ?_)
          refine wp_iload_n dX8_taken_38 rfl rfl ?_
          refine wp_iload_n dX8_taken_39 rfl rfl ?_
          refine wp_icmp_eq (tgt := 51) dX8_taken_40 (by decide) (fun h40 => ?_) (fun h40 => ?_)
          · refine wp_iload_n dX8_taken_51 rfl rfl ?_
            refine wp_iload_n dX8_taken_52 rfl rfl ?_
            refine wp_icmp_ne (tgt := 67) dX8_taken_53 (by decide) (fun h53 => ?_) (fun h53 => ?_)
            · refine wp_bipush dX8_taken_67 (by decide) (by decide) ?_
              refine wp_iret rfl dX8_taken_69 ?_
              have q : undr (A.2 0 x.toNat) y = false := by rw [hk]; exact decide_eq_false (by rw [show overK 1 = 0 from rfl, show overK 0 = (-1) from rfl]; omega)
              rw [show tknA A x y = (-13) from (if_neg (by omega)).trans ((if_neg (by omega)).trans (if_neg (by rw [q]; decide)))] at k
              exact k
            · refine wp_aload_n dX8_taken_56 rfl rfl ?_
              refine wp_get 69 rfl fl_RX8_26 rfl ⟨by omega, by omega⟩ dX8_taken_57 rfl (v := 74) (sr_69_9 (M := M) hR) ?_
              refine wp_iconst dX8_taken_60 (by decide) ?_
              refine wp_iload_n dX8_taken_61 rfl rfl ?_
              refine wp_imul dX8_taken_62 (by omega) ?_
              refine wp_iald 74 rfl rfl ⟨by omega, by omega⟩ ⟨by omega, by omega⟩ dX8_taken_63 (v := (A.2 1 x.toNat)) (by rw [show ((4 * x)).toNat = (4 * x.toNat) by omega]; exact hA.2.2.2.2.2.1 0 x.toNat (by omega) (by omega)) ?_
              refine wp_goto (tgt := 69) dX8_taken_64 (by decide) ?_
              refine wp_iret rfl dX8_taken_69 ?_
              have q : undr (A.2 0 x.toNat) y = true := by rw [hk]; exact decide_eq_true (by rw [show overK 1 = 0 from rfl, show overK 0 = (-1) from rfl]; omega)
              rw [show tknA A x y = (A.2 1 x.toNat) from (if_neg (by omega)).trans ((if_neg (by omega)).trans (if_pos q))] at k
              exact k
          · refine wp_iload_n dX8_taken_43 rfl rfl ?_
            refine wp_callS0 (d' := d - 1) cs_RX8_475 [(0, 0)] [] rfl rfl (Nat.le_of_ble_eq_true rfl) dX8_taken_44 rfl (Nat.le_of_ble_eq_true rfl) (by omega) (loc1 := [(0, 0)]) rfl ?_
            refine wp_iload_n dX8_over_0 rfl rfl ?_
            refine wp_if_ne (tgt := 8) dX8_over_1 (by decide) (fun h => absurd h (by decide)) (fun _ => ?_)
            refine wp_iconst dX8_over_4 (by decide) ?_
            refine wp_goto (tgt := 27) dX8_over_5 (by decide) ?_
            refine wp_iret rfl dX8_over_27 ?_
            refine wp_istore_n (loc' := [(2, 69), (0, x), (0, y), (0, (-1))]) dX8_taken_47 rfl (Nat.le_of_ble_eq_true rfl) rfl ?_
            refine wp_goto (tgt := 33) dX8_taken_48 (by decide) ?_
            refine wp_iload_n dX8_taken_33 rfl rfl ?_
            refine wp_iconst dX8_taken_34 (by decide) ?_
            refine wp_icmp_eq (tgt := 51) dX8_taken_35 (by decide) (fun _ => ?_) (fun h => absurd h (by decide))
            refine wp_iload_n dX8_taken_51 rfl rfl ?_
            refine wp_iload_n dX8_taken_52 rfl rfl ?_
            refine wp_icmp_ne (tgt := 67) dX8_taken_53 (by decide) (fun h53 => ?_) (fun h53 => ?_)
            · refine wp_bipush dX8_taken_67 (by decide) (by decide) ?_
              refine wp_iret rfl dX8_taken_69 ?_
              have q : undr (A.2 0 x.toNat) y = false := by rw [hk]; exact decide_eq_false (by rw [show overK 1 = 0 from rfl, show overK 0 = (-1) from rfl]; omega)
              rw [show tknA A x y = (-13) from (if_neg (by omega)).trans ((if_neg (by omega)).trans (if_neg (by rw [q]; decide)))] at k
              exact k
            · refine wp_aload_n dX8_taken_56 rfl rfl ?_
              refine wp_get 69 rfl fl_RX8_26 rfl ⟨by omega, by omega⟩ dX8_taken_57 rfl (v := 74) (sr_69_9 (M := M) hR) ?_
              refine wp_iconst dX8_taken_60 (by decide) ?_
              refine wp_iload_n dX8_taken_61 rfl rfl ?_
              refine wp_imul dX8_taken_62 (by omega) ?_
              refine wp_iald 74 rfl rfl ⟨by omega, by omega⟩ ⟨by omega, by omega⟩ dX8_taken_63 (v := (A.2 1 x.toNat)) (by rw [show ((4 * x)).toNat = (4 * x.toNat) by omega]; exact hA.2.2.2.2.2.1 0 x.toNat (by omega) (by omega)) ?_
              refine wp_goto (tgt := 69) dX8_taken_64 (by decide) ?_
              refine wp_iret rfl dX8_taken_69 ?_
              have q : undr (A.2 0 x.toNat) y = true := by rw [hk]; exact decide_eq_true (by rw [show overK 1 = 0 from rfl, show overK 0 = (-1) from rfl]; omega)
              rw [show tknA A x y = (A.2 1 x.toNat) from (if_neg (by omega)).trans ((if_neg (by omega)).trans (if_pos q))] at k
              exact k
      · refine wp_aload_n dX8_taken_26 rfl rfl ?_
        refine wp_get 69 rfl fl_RX8_23 rfl ⟨by omega, by omega⟩ dX8_taken_27 rfl (v := 73) (sr_69_8 (M := M) hR) ?_
        refine wp_iload_n dX8_taken_30 rfl rfl ?_
        refine wp_iald 73 rfl rfl ⟨by omega, by omega⟩ ⟨by omega, by omega⟩ dX8_taken_31 (v := 2) (by rw [show (x).toNat = x.toNat by omega]; exact ((hA.2.2.2.2.1 x.toNat (by omega)).trans hk)) ?_
        refine wp_istore_n (loc' := [(2, 69), (0, x), (0, y), (0, 2)]) dX8_taken_32 rfl (Nat.le_of_ble_eq_true rfl) rfl ?_
        refine wp_iload_n dX8_taken_33 rfl rfl ?_
        refine wp_iconst dX8_taken_34 (by decide) ?_
        refine wp_icmp_eq (tgt := 51) dX8_taken_35 (by decide) (fun h => absurd h (by decide)) (fun _ => ?_)
        refine wp_iload_n dX8_taken_38 rfl rfl ?_
        refine wp_iload_n dX8_taken_39 rfl rfl ?_
        refine wp_icmp_eq (tgt := 51) dX8_taken_40 (by decide) (fun h40 => ?_) (fun h40 => ?_)
        · refine wp_iload_n dX8_taken_51 rfl rfl ?_
          refine wp_iload_n dX8_taken_52 rfl rfl ?_
          refine wp_icmp_ne (tgt := 67) dX8_taken_53 (by decide) (fun h53 => ?_) (fun h53 => ?_)
          · refine wp_bipush dX8_taken_67 (by decide) (by decide) ?_
            refine wp_iret rfl dX8_taken_69 ?_
            have q : undr (A.2 0 x.toNat) y = false := by rw [hk]; exact decide_eq_false (by rw [show overK 2 = 0 from rfl, show overK 0 = (-1) from rfl]; omega)
            rw [show tknA A x y = (-13) from (if_neg (by omega)).trans ((if_neg (by omega)).trans (if_neg (by rw [q]; decide)))] at k
            exact k
          · refine wp_aload_n dX8_taken_56 rfl rfl ?_
            refine wp_get 69 rfl fl_RX8_26 rfl ⟨by omega, by omega⟩ dX8_taken_57 rfl (v := 74) (sr_69_9 (M := M) hR) ?_
            refine wp_iconst dX8_taken_60 (by decide) ?_
            refine wp_iload_n dX8_taken_61 rfl rfl ?_
            refine wp_imul dX8_taken_62 (by omega) ?_
            refine wp_iald 74 rfl rfl ⟨by omega, by omega⟩ ⟨by omega, by omega⟩ dX8_taken_63 (v := (A.2 1 x.toNat)) (by rw [show ((4 * x)).toNat = (4 * x.toNat) by omega]; exact hA.2.2.2.2.2.1 0 x.toNat (by omega) (by omega)) ?_
            refine wp_goto (tgt := 69) dX8_taken_64 (by decide) ?_
            refine wp_iret rfl dX8_taken_69 ?_
            have q : undr (A.2 0 x.toNat) y = true := by rw [hk]; exact decide_eq_true (by rw [show overK 2 = 0 from rfl, show overK 0 = (-1) from rfl]; omega)
            rw [show tknA A x y = (A.2 1 x.toNat) from (if_neg (by omega)).trans ((if_neg (by omega)).trans (if_pos q))] at k
            exact k
        · refine wp_iload_n dX8_taken_43 rfl rfl ?_
          refine wp_callS0 (d' := d - 1) cs_RX8_475 [(0, 2)] [] rfl rfl (Nat.le_of_ble_eq_true rfl) dX8_taken_44 rfl (Nat.le_of_ble_eq_true rfl) (by omega) (loc1 := [(0, 2)]) rfl ?_
          refine wp_iload_n dX8_over_0 rfl rfl ?_
          refine wp_if_ne (tgt := 8) dX8_over_1 (by decide) (fun _ => ?_) (fun h => absurd h (by decide))
          refine wp_iload_n dX8_over_8 rfl rfl ?_
          refine wp_iconst dX8_over_9 (by decide) ?_
          refine wp_icmp_ne (tgt := 17) dX8_over_10 (by decide) (fun _ => ?_) (fun h => absurd h (by decide))
          refine wp_iload_n dX8_over_17 rfl rfl ?_
          refine wp_iconst dX8_over_18 (by decide) ?_
          refine wp_icmp_ne (tgt := 26) dX8_over_19 (by decide) (fun _ => ?_) (fun h => absurd h (by decide))
          refine wp_iconst dX8_over_26 (by decide) ?_
          refine wp_iret rfl dX8_over_27 ?_
          refine wp_istore_n (loc' := [(2, 69), (0, x), (0, y), (0, 0)]) dX8_taken_47 rfl (Nat.le_of_ble_eq_true rfl) rfl ?_
          refine wp_goto (tgt := 33) dX8_taken_48 (by decide) ?_
          refine wp_iload_n dX8_taken_33 rfl rfl ?_
          refine wp_iconst dX8_taken_34 (by decide) ?_
          refine wp_icmp_eq (tgt := 51) dX8_taken_35 (by decide) (fun h => absurd h (by decide)) (fun _ => ?_)
          refine wp_iload_n dX8_taken_38 rfl rfl ?_
          refine wp_iload_n dX8_taken_39 rfl rfl ?_
          refine wp_icmp_eq (tgt := 51) dX8_taken_40 (by decide) (fun h40 => ?_) (fun h40 => ?_)
          · refine wp_iload_n dX8_taken_51 rfl rfl ?_
            refine wp_iload_n dX8_taken_52 rfl rfl ?_
            refine wp_icmp_ne (tgt := 67) dX8_taken_53 (by decide) (fun h53 => ?_) (fun h53 => ?_)
            · refine wp_bipush dX8_taken_67 (by decide) (by decide) ?_
              refine wp_iret rfl dX8_taken_69 ?_
              have q : undr (A.2 0 x.toNat) y = false := by rw [hk]; exact decide_eq_false (by rw [show overK 2 = 0 from rfl, show overK 0 = (-1) from rfl]; omega)
              rw [show tknA A x y = (-13) from (if_neg (by omega)).trans ((if_neg (by omega)).trans (if_neg (by rw [q]; decide)))] at k
              exact k
            · refine wp_aload_n dX8_taken_56 rfl rfl ?_
              refine wp_get 69 rfl fl_RX8_26 rfl ⟨by omega, by omega⟩ dX8_taken_57 rfl (v := 74) (sr_69_9 (M := M) hR) ?_
              refine wp_iconst dX8_taken_60 (by decide) ?_
              refine wp_iload_n dX8_taken_61 rfl rfl ?_
              refine wp_imul dX8_taken_62 (by omega) ?_
              refine wp_iald 74 rfl rfl ⟨by omega, by omega⟩ ⟨by omega, by omega⟩ dX8_taken_63 (v := (A.2 1 x.toNat)) (by rw [show ((4 * x)).toNat = (4 * x.toNat) by omega]; exact hA.2.2.2.2.2.1 0 x.toNat (by omega) (by omega)) ?_
              refine wp_goto (tgt := 69) dX8_taken_64 (by decide) ?_
              refine wp_iret rfl dX8_taken_69 ?_
              have q : undr (A.2 0 x.toNat) y = true := by rw [hk]; exact decide_eq_true (by rw [show overK 2 = 0 from rfl, show overK 0 = (-1) from rfl]; omega)
              rw [show tknA A x y = (A.2 1 x.toNat) from (if_neg (by omega)).trans ((if_neg (by omega)).trans (if_pos q))] at k
              exact k
          · refine wp_iload_n dX8_taken_43 rfl rfl ?_
            refine wp_callS0 (d' := d - 1) cs_RX8_475 [(0, 0)] [] rfl rfl (Nat.le_of_ble_eq_true rfl) dX8_taken_44 rfl (Nat.le_of_ble_eq_true rfl) (by omega) (loc1 := [(0, 0)]) rfl ?_
            refine wp_iload_n dX8_over_0 rfl rfl ?_
            refine wp_if_ne (tgt := 8) dX8_over_1 (by decide) (fun h => absurd h (by decide)) (fun _ => ?_)
            refine wp_iconst dX8_over_4 (by decide) ?_
            refine wp_goto (tgt := 27) dX8_over_5 (by decide) ?_
            refine wp_iret rfl dX8_over_27 ?_
            refine wp_istore_n (loc' := [(2, 69), (0, x), (0, y), (0, (-1))]) dX8_taken_47 rfl (Nat.le_of_ble_eq_true rfl) rfl ?_
            refine wp_goto (tgt := 33) dX8_taken_48 (by decide) ?_
            refine wp_iload_n dX8_taken_33 rfl rfl ?_
            refine wp_iconst dX8_taken_34 (by decide) ?_
            refine wp_icmp_eq (tgt := 51) dX8_taken_35 (by decide) (fun _ => ?_) (fun h => absurd h (by decide))
            refine wp_iload_n dX8_taken_51 rfl rfl ?_
            refine wp_iload_n dX8_taken_52 rfl rfl ?_
            refine wp_icmp_ne (tgt := 67) dX8_taken_53 (by decide) (fun h53 => ?_) (fun h53 => ?_)
            · refine wp_bipush dX8_taken_67 (by decide) (by decide) ?_
              refine wp_iret rfl dX8_taken_69 ?_
              have q : undr (A.2 0 x.toNat) y = false := by rw [hk]; exact decide_eq_false (by rw [show overK 2 = 0 from rfl, show overK 0 = (-1) from rfl]; omega)
              rw [show tknA A x y = (-13) from (if_neg (by omega)).trans ((if_neg (by omega)).trans (if_neg (by rw [q]; decide)))] at k
              exact k
            · refine wp_aload_n dX8_taken_56 rfl rfl ?_
              refine wp_get 69 rfl fl_RX8_26 rfl ⟨by omega, by omega⟩ dX8_taken_57 rfl (v := 74) (sr_69_9 (M := M) hR) ?_
              refine wp_iconst dX8_taken_60 (by decide) ?_
              refine wp_iload_n dX8_taken_61 rfl rfl ?_
              refine wp_imul dX8_taken_62 (by omega) ?_
              refine wp_iald 74 rfl rfl ⟨by omega, by omega⟩ ⟨by omega, by omega⟩ dX8_taken_63 (v := (A.2 1 x.toNat)) (by rw [show ((4 * x)).toNat = (4 * x.toNat) by omega]; exact hA.2.2.2.2.2.1 0 x.toNat (by omega) (by omega)) ?_
              refine wp_goto (tgt := 69) dX8_taken_64 (by decide) ?_
              refine wp_iret rfl dX8_taken_69 ?_
              have q : undr (A.2 0 x.toNat) y = true := by rw [hk]; exact decide_eq_true (by rw [show overK 2 = 0 from rfl, show overK 0 = (-1) from rfl]; omega)
              rw [show tknA A x y = (A.2 1 x.toNat) from (if_neg (by omega)).trans ((if_neg (by omega)).trans (if_pos q))] at k
              exact k
      · refine wp_aload_n dX8_taken_26 rfl rfl ?_
        refine wp_get 69 rfl fl_RX8_23 rfl ⟨by omega, by omega⟩ dX8_taken_27 rfl (v := 73) (sr_69_8 (M := M) hR) ?_
        refine wp_iload_n dX8_taken_30 rfl rfl ?_
        refine wp_iald 73 rfl rfl ⟨by omega, by omega⟩ ⟨by omega, by omega⟩ dX8_taken_31 (v := 3) (by rw [show (x).toNat = x.toNat by omega]; exact ((hA.2.2.2.2.1 x.toNat (by omega)).trans hk)) ?_
        refine wp_istore_n (loc' := [(2, 69), (0, x), (0, y), (0, 3)]) dX8_taken_32 rfl (Nat.le_of_ble_eq_true rfl) rfl ?_
        refine wp_iload_n dX8_taken_33 rfl rfl ?_
        refine wp_iconst dX8_taken_34 (by decide) ?_
        refine wp_icmp_eq (tgt := 51) dX8_taken_35 (by decide) (fun h => absurd h (by decide)) (fun _ => ?_)
        refine wp_iload_n dX8_taken_38 rfl rfl ?_
        refine wp_iload_n dX8_taken_39 rfl rfl ?_
        refine wp_icmp_eq (tgt := 51) dX8_taken_40 (by decide) (fun h40 => ?_) (fun h40 => ?_)
        · refine wp_iload_n dX8_taken_51 rfl rfl ?_
          refine wp_iload_n dX8_taken_52 rfl rfl ?_
          refine wp_icmp_ne (tgt := 67) dX8_taken_53 (by decide) (fun h53 => ?_) (fun h53 => ?_)
          · refine wp_bipush dX8_taken_67 (by decide) (by decide) ?_
            refine wp_iret rfl dX8_taken_69 ?_
            have q : undr (A.2 0 x.toNat) y = false := by rw [hk]; exact decide_eq_false (by rw [show overK 3 = 1 from rfl, show overK 1 = 0 from rfl]; omega)
            rw [show tknA A x y = (-13) from (if_neg (by omega)).trans ((if_neg (by omega)).trans (if_neg (by rw [q]; decide)))] at k
            exact k
          · refine wp_aload_n dX8_taken_56 rfl rfl ?_
            refine wp_get 69 rfl fl_RX8_26 rfl ⟨by omega, by omega⟩ dX8_taken_57 rfl (v := 74) (sr_69_9 (M := M) hR) ?_
            refine wp_iconst dX8_taken_60 (by decide) ?_
            refine wp_iload_n dX8_taken_61 rfl rfl ?_
            refine wp_imul dX8_taken_62 (by omega) ?_
            refine wp_iald 74 rfl rfl ⟨by omega, by omega⟩ ⟨by omega, by omega⟩ dX8_taken_63 (v := (A.2 1 x.toNat)) (by rw [show ((4 * x)).toNat = (4 * x.toNat) by omega]; exact hA.2.2.2.2.2.1 0 x.toNat (by omega) (by omega)) ?_
            refine wp_goto (tgt := 69) dX8_taken_64 (by decide) ?_
            refine wp_iret rfl dX8_taken_69 ?_
            have q : undr (A.2 0 x.toNat) y = true := by rw [hk]; exact decide_eq_true (by rw [show overK 3 = 1 from rfl, show overK 1 = 0 from rfl]; omega)
            rw [show tknA A x y = (A.2 1 x.toNat) from (if_neg (by omega)).trans ((if_neg (by omega)).trans (if_pos q))] at k
            exact k
        · refine wp_iload_n dX8_taken_43 rfl rfl ?_
          refine wp_callS0 (d' := d - 1) cs_RX8_475 [(0, 3)] [] rfl rfl (Nat.le_of_ble_eq_true rfl) dX8_taken_44 rfl (Nat.le_of_ble_eq_true rfl) (by omega) (loc1 := [(0, 3)]) rfl ?_
          refine wp_iload_n dX8_over_0 rfl rfl ?_
          refine wp_if_ne (tgt := 8) dX8_over_1 (by decide) (fun _ => ?_) (fun h => absurd h (by decide))
          refine wp_iload_n dX8_over_8 rfl rfl ?_
          refine wp_iconst dX8_over_9 (by decide) ?_
          refine wp_icmp_ne (tgt := 17) dX8_over_10 (by decide) (fun h => absurd h (by decide)) (fun _ => ?_)
          refine wp_iconst dX8_over_13 (by decide) ?_
          refine wp_goto (tgt := 27) dX8_over_14 (by decide) ?_
          refine wp_iret rfl dX8_over_27 ?_
          refine wp_istore_n (loc' := [(2, 69), (0, x), (0, y), (0, 1)]) dX8_taken_47 rfl (Nat.le_of_ble_eq_true rfl) rfl ?_
          refine wp_goto (tgt := 33) dX8_taken_48 (by decide) ?_
          refine wp_iload_n dX8_taken_33 rfl rfl ?_
          refine wp_iconst dX8_taken_34 (by decide) ?_
          refine wp_icmp_eq (tgt := 51) dX8_taken_35 (by decide) (fun h => absurd h (by decide)) (fun _ => ?_)
          refine wp_iload_n dX8_taken_38 rfl rfl ?_
          refine wp_iload_n dX8_taken_39 rfl rfl ?_
          refine wp_icmp_eq (tgt := 51) dX8_taken_40 (by decide) (fun h40 => ?_) (fun h40 => ?_)
          · refine wp_iload_n dX8_taken_51 rfl rfl ?_
            refine wp_iload_n dX8_taken_52 rfl rfl ?_
            refine wp_icmp_ne (tgt := 67) dX8_taken_53 (by decide) (fun h53 => ?_) (fun h53 => ?_)
            · refine wp_bipush dX8_taken_67 (by decide) (by decide) ?_
              refine wp_iret rfl dX8_taken_69 ?_
              have q : undr (A.2 0 x.toNat) y = false := by rw [hk]; exact decide_eq_false (by rw [show overK 3 = 1 from rfl, show overK 1 = 0 from rfl]; omega)
              rw [show tknA A x y = (-13) from (if_neg (by omega)).trans ((if_neg (by omega)).trans (if_neg (by rw [q]; decide)))] at k
              exact k
            · refine wp_aload_n dX8_taken_56 rfl rfl ?_
              refine wp_get 69 rfl fl_RX8_26 rfl ⟨by omega, by omega⟩ dX8_taken_57 rfl (v := 74) (sr_69_9 (M := M) hR) ?_
              refine wp_iconst dX8_taken_60 (by decide) ?_
              refine wp_iload_n dX8_taken_61 rfl rfl ?_
              refine wp_imul dX8_taken_62 (by omega) ?_
              refine wp_iald 74 rfl rfl ⟨by omega, by omega⟩ ⟨by omega, by omega⟩ dX8_taken_63 (v := (A.2 1 x.toNat)) (by rw [show ((4 * x)).toNat = (4 * x.toNat) by omega]; exact hA.2.2.2.2.2.1 0 x.toNat (by omega) (by omega)) ?_
              refine wp_goto (tgt := 69) dX8_taken_64 (by decide) ?_
              refine wp_iret rfl dX8_taken_69 ?_
              have q : undr (A.2 0 x.toNat) y = true := by rw [hk]; exact decide_eq_true (by rw [show overK 3 = 1 from rfl, show overK 1 = 0 from rfl]; omega)
              rw [show tknA A x y = (A.2 1 x.toNat) from (if_neg (by omega)).trans ((if_neg (by omega)).trans (if_pos q))] at k
              exact k
          · refine wp_iload_n dX8_taken_43 rfl rfl ?_
            refine wp_callS0 (d' := d - 1) cs_RX8_475 [(0, 1)] [] rfl rfl (Nat.le_of_ble_eq_true rfl) dX8_taken_44 rfl (Nat.le_of_ble_eq_true rfl) (by omega) (loc1 := [(0, 1)]) rfl ?_
            refine wp_iload_n dX8_over_0 rfl rfl ?_
            refine wp_if_ne (tgt := 8) dX8_over_1 (by decide) (fun _ => ?_) (fun h => absurd h (by decide))
            refine wp_iload_n dX8_over_8 rfl rfl ?_
            refine wp_iconst dX8_over_9 (by decide) ?_
            refine wp_icmp_ne (tgt := 17) dX8_over_10 (by decide) (fun _ => ?_) (fun h => absurd h (by decide))
            refine wp_iload_n dX8_over_17 rfl rfl ?_
            refine wp_iconst dX8_over_18 (by decide) ?_
            refine wp_icmp_ne (tgt := 26) dX8_over_19 (by decide) (fun _ => ?_) (fun h => absurd h (by decide))
            refine wp_iconst dX8_over_26 (by decide) ?_
            refine wp_iret rfl dX8_over_27 ?_
            refine wp_istore_n (loc' := [(2, 69), (0, x), (0, y), (0, 0)]) dX8_taken_47 rfl (Nat.le_of_ble_eq_true rfl) rfl ?_
            refine wp_goto (tgt := 33) dX8_taken_48 (by decide) ?_
            refine wp_iload_n dX8_taken_33 rfl rfl ?_
            refine wp_iconst dX8_taken_34 (by decide) ?_
            refine wp_icmp_eq (tgt := 51) dX8_taken_35 (by decide) (fun h => absurd h (by decide)) (fun _ => ?_)
            refine wp_iload_n dX8_taken_38 rfl rfl ?_
            refine wp_iload_n dX8_taken_39 rfl rfl ?_
            refine wp_icmp_eq (tgt := 51) dX8_taken_40 (by decide) (fun h40 => ?_) (fun h40 => ?_)
            · refine wp_iload_n dX8_taken_51 rfl rfl ?_
              refine wp_iload_n dX8_taken_52 rfl rfl ?_
              refine wp_icmp_ne (tgt := 67) dX8_taken_53 (by decide) (fun h53 => ?_) (fun h53 => ?_)
              · refine wp_bipush dX8_taken_67 (by decide) (by decide) ?_
                refine wp_iret rfl dX8_taken_69 ?_
                have q : undr (A.2 0 x.toNat) y = false := by rw [hk]; exact decide_eq_false (by rw [show overK 3 = 1 from rfl, show overK 1 = 0 from rfl]; omega)
                rw [show tknA A x y = (-13) from (if_neg (by omega)).trans ((if_neg (by omega)).trans (if_neg (by rw [q]; decide)))] at k
                exact k
              · refine wp_aload_n dX8_taken_56 rfl rfl ?_
                refine wp_get 69 rfl fl_RX8_26 rfl ⟨by omega, by omega⟩ dX8_taken_57 rfl (v := 74) (sr_69_9 (M := M) hR) ?_
                refine wp_iconst dX8_taken_60 (by decide) ?_
                refine wp_iload_n dX8_taken_61 rfl rfl ?_
                refine wp_imul dX8_taken_62 (by omega) ?_
                refine wp_iald 74 rfl rfl ⟨by omega, by omega⟩ ⟨by omega, by omega⟩ dX8_taken_63 (v := (A.2 1 x.toNat)) (by rw [show ((4 * x)).toNat = (4 * x.toNat) by omega]; exact hA.2.2.2.2.2.1 0 x.toNat (by omega) (by omega)) ?_
                refine wp_goto (tgt := 69) dX8_taken_64 (by decide) ?_
                refine wp_iret rfl dX8_taken_69 ?_
                have q : undr (A.2 0 x.toNat) y = true := by rw [hk]; exact decide_eq_true (by rw [show overK 3 = 1 from rfl, show overK 1 = 0 from rfl]; omega)
                rw [show tknA A x y = (A.2 1 x.toNat) from (if_neg (by omega)).trans ((if_neg (by omega)).trans (if_pos q))] at k
                exact k
            · refine wp_iload_n dX8_taken_43 rfl rfl ?_
              refine wp_callS0 (d' := d - 1) cs_RX8_475 [(0, 0)] [] rfl rfl (Nat.le_of_ble_eq_true rfl) dX8_taken_44 rfl (Nat.le_of_ble_eq_true rfl) (by omega) (loc1 := [(0, 0)]) rfl ?_
              refine wp_iload_n dX8_over_0 rfl rfl ?_
              refine wp_if_ne (tgt := 8) dX8_over_1 (by decide) (fun h => absurd h (by decide)) (fun _ => ?_)
              refine wp_iconst dX8_over_4 (by decide) ?_
              refine wp_goto (tgt := 27) dX8_over_5 (by decide) ?_
              refine wp_iret rfl dX8_over_27 ?_
              refine wp_istore_n (loc' := [(2, 69), (0, x), (0, y), (0, (-1))]) dX8_taken_47 rfl (Nat.le_of_ble_eq_true rfl) rfl ?_
              refine wp_goto (tgt := 33) dX8_taken_48 (by decide) ?_
              refine wp_iload_n dX8_taken_33 rfl rfl ?_
              refine wp_iconst dX8_taken_34 (by decide) ?_
              refine wp_icmp_eq (tgt := 51) dX8_taken_35 (by decide) (fun _ => ?_) (fun h => absurd h (by decide))
              refine wp_iload_n dX8_taken_51 rfl rfl ?_
              refine wp_iload_n dX8_taken_52 rfl rfl ?_
              refine wp_icmp_ne (tgt := 67) dX8_taken_53 (by decide) (fun h53 => ?_) (fun h53 => ?_)
              · refine wp_bipush dX8_taken_67 (by decide) (by decide) ?_
                refine wp_iret rfl dX8_taken_69 ?_
                have q : undr (A.2 0 x.toNat) y = false := by rw [hk]; exact decide_eq_false (by rw [show overK 3 = 1 from rfl, show overK 1 = 0 from rfl]; omega)
                rw [show tknA A x y = (-13) from (if_neg (by omega)).trans ((if_neg (by omega)).trans (if_neg (by rw [q]; decide)))] at k
                exact k
              · refine wp_aload_n dX8_taken_56 rfl rfl ?_
                refine wp_get 69 rfl fl_RX8_26 rfl ⟨by omega, by omega⟩ dX8_taken_57 rfl (v := 74) (sr_69_9 (M := M) hR) ?_
                refine wp_iconst dX8_taken_60 (by decide) ?_
                refine wp_iload_n dX8_taken_61 rfl rfl ?_
                refine wp_imul dX8_taken_62 (by omega) ?_
                refine wp_iald 74 rfl rfl ⟨by omega, by omega⟩ ⟨by omega, by omega⟩ dX8_taken_63 (v := (A.2 1 x.toNat)) (by rw [show ((4 * x)).toNat = (4 * x.toNat) by omega]; exact hA.2.2.2.2.2.1 0 x.toNat (by omega) (by omega)) ?_
                refine wp_goto (tgt := 69) dX8_taken_64 (by decide) ?_
                refine wp_iret rfl dX8_taken_69 ?_
                have q : undr (A.2 0 x.toNat) y = true := by rw [hk]; exact decide_eq_true (by rw [show overK 3 = 1 from rfl, show overK 1 = 0 from rfl]; omega)
                rw [show tknA A x y = (A.2 1 x.toNat) from (if_neg (by omega)).trans ((if_neg (by omega)).trans (if_pos q))] at k
                exact k
      · refine wp_aload_n dX8_taken_26 rfl rfl ?_
        refine wp_get 69 rfl fl_RX8_23 rfl ⟨by omega, by omega⟩ dX8_taken_27 rfl (v := 73) (sr_69_8 (M := M) hR) ?_
        refine wp_iload_n dX8_taken_30 rfl rfl ?_
        refine wp_iald 73 rfl rfl ⟨by omega, by omega⟩ ⟨by omega, by omega⟩ dX8_taken_31 (v := 4) (by rw [show (x).toNat = x.toNat by omega]; exact ((hA.2.2.2.2.1 x.toNat (by omega)).trans hk)) ?_
        refine wp_istore_n (loc' := [(2, 69), (0, x), (0, y), (0, 4)]) dX8_taken_32 rfl (Nat.le_of_ble_eq_true rfl) rfl ?_
        refine wp_iload_n dX8_taken_33 rfl rfl ?_
        refine wp_iconst dX8_taken_34 (by decide) ?_
        refine wp_icmp_eq (tgt := 51) dX8_taken_35 (by decide) (fun h => absurd h (by decide)) (fun _ => ?_)
        refine wp_iload_n dX8_taken_38 rfl rfl ?_
        refine wp_iload_n dX8_taken_39 rfl rfl ?_
        refine wp_icmp_eq (tgt := 51) dX8_taken_40 (by decide) (fun h40 => ?_) (fun h40 => ?_)
        · refine wp_iload_n dX8_taken_51 rfl rfl ?_
          refine wp_iload_n dX8_taken_52 rfl rfl ?_
          refine wp_icmp_ne (tgt := 67) dX8_taken_53 (by decide) (fun h53 => ?_) (fun h53 => ?_)
          · refine wp_bipush dX8_taken_67 (by decide) (by decide) ?_
            refine wp_iret rfl dX8_taken_69 ?_
            have q : undr (A.2 0 x.toNat) y = false := by rw [hk]; exact decide_eq_false (by rw [show overK 4 = 2 from rfl, show overK 2 = 0 from rfl]; omega)
            rw [show tknA A x y = (-13) from (if_neg (by omega)).trans ((if_neg (by omega)).trans (if_neg (by rw [q]; decide)))] at k
            exact k
          · refine wp_aload_n dX8_taken_56 rfl rfl ?_
            refine wp_get 69 rfl fl_RX8_26 rfl ⟨by omega, by omega⟩ dX8_taken_57 rfl (v := 74) (sr_69_9 (M := M) hR) ?_
            refine wp_iconst dX8_taken_60 (by decide) ?_
            refine wp_iload_n dX8_taken_61 rfl rfl ?_
            refine wp_imul dX8_taken_62 (by omega) ?_
            refine wp_iald 74 rfl rfl ⟨by omega, by omega⟩ ⟨by omega, by omega⟩ dX8_taken_63 (v := (A.2 1 x.toNat)) (by rw [show ((4 * x)).toNat = (4 * x.toNat) by omega]; exact hA.2.2.2.2.2.1 0 x.toNat (by omega) (by omega)) ?_
            refine wp_goto (tgt := 69) dX8_taken_64 (by decide) ?_
            refine wp_iret rfl dX8_taken_69 ?_
            have q : undr (A.2 0 x.toNat) y = true := by rw [hk]; exact decide_eq_true (by rw [show overK 4 = 2 from rfl, show overK 2 = 0 from rfl]; omega)
            rw [show tknA A x y = (A.2 1 x.toNat) from (if_neg (by omega)).trans ((if_neg (by omega)).trans (if_pos q))] at k
            exact k
        · refine wp_iload_n dX8_taken_43 rfl rfl ?_
          refine wp_callS0 (d' := d - 1) cs_RX8_475 [(0, 4)] [] rfl rfl (Nat.le_of_ble_eq_true rfl) dX8_taken_44 rfl (Nat.le_of_ble_eq_true rfl) (by omega) (loc1 := [(0, 4)]) rfl ?_
          refine wp_iload_n dX8_over_0 rfl rfl ?_
          refine wp_if_ne (tgt := 8) dX8_over_1 (by decide) (fun _ => ?_) (fun h => absurd h (by decide))
          refine wp_iload_n dX8_over_8 rfl rfl ?_
          refine wp_iconst dX8_over_9 (by decide) ?_
          refine wp_icmp_ne (tgt := 17) dX8_over_10 (by decide) (fun _ => ?_) (fun h => absurd h (by decide))
          refine wp_iload_n dX8_over_17 rfl rfl ?_
          refine wp_iconst dX8_over_18 (by decide) ?_
          refine wp_icmp_ne (tgt := 26) dX8_over_19 (by decide) (fun h => absurd h (by decide)) (fun _ => ?_)
          refine wp_iconst dX8_over_22 (by decide) ?_
          refine wp_goto (tgt := 27) dX8_over_23 (by decide) ?_
          refine wp_iret rfl dX8_over_27 ?_
          refine wp_istore_n (loc' := [(2, 69), (0, x), (0, y), (0, 2)]) dX8_taken_47 rfl (Nat.le_of_ble_eq_true rfl) rfl ?_
          refine wp_goto (tgt := 33) dX8_taken_48 (by decide) ?_
          refine wp_iload_n dX8_taken_33 rfl rfl ?_
          refine wp_iconst dX8_taken_34 (by decide) ?_
          refine wp_icmp_eq (tgt := 51) dX8_taken_35 (by decide) (fun h => absurd h (by decide)) (fun _ => ?_)
          refine wp_iload_n dX8_taken_38 rfl rfl ?_
          refine wp_iload_n dX8_taken_39 rfl rfl ?_
          refine wp_icmp_eq (tgt := 51) dX8_taken_40 (by decide) (fun h40 => ?_) (fun h40 => ?_)
          · refine wp_iload_n dX8_taken_51 rfl rfl ?_
            refine wp_iload_n dX8_taken_52 rfl rfl ?_
            refine wp_icmp_ne (tgt := 67) dX8_taken_53 (by decide) (fun h53 => ?_) (fun h53 => ?_)
            · refine wp_bipush dX8_taken_67 (by decide) (by decide) ?_
              refine wp_iret rfl dX8_taken_69 ?_
              have q : undr (A.2 0 x.toNat) y = false := by rw [hk]; exact decide_eq_false (by rw [show overK 4 = 2 from rfl, show overK 2 = 0 from rfl]; omega)
              rw [show tknA A x y = (-13) from (if_neg (by omega)).trans ((if_neg (by omega)).trans (if_neg (by rw [q]; decide)))] at k
              exact k
            · refine wp_aload_n dX8_taken_56 rfl rfl ?_
              refine wp_get 69 rfl fl_RX8_26 rfl ⟨by omega, by omega⟩ dX8_taken_57 rfl (v := 74) (sr_69_9 (M := M) hR) ?_
              refine wp_iconst dX8_taken_60 (by decide) ?_
              refine wp_iload_n dX8_taken_61 rfl rfl ?_
              refine wp_imul dX8_taken_62 (by omega) ?_
              refine wp_iald 74 rfl rfl ⟨by omega, by omega⟩ ⟨by omega, by omega⟩ dX8_taken_63 (v := (A.2 1 x.toNat)) (by rw [show ((4 * x)).toNat = (4 * x.toNat) by omega]; exact hA.2.2.2.2.2.1 0 x.toNat (by omega) (by omega)) ?_
              refine wp_goto (tgt := 69) dX8_taken_64 (by decide) ?_
              refine wp_iret rfl dX8_taken_69 ?_
              have q : undr (A.2 0 x.toNat) y = true := by rw [hk]; exact decide_eq_true (by rw [show overK 4 = 2 from rfl, show overK 2 = 0 from rfl]; omega)
              rw [show tknA A x y = (A.2 1 x.toNat) from (if_neg (by omega)).trans ((if_neg (by omega)).trans (if_pos q))] at k
              exact k
          · refine wp_iload_n dX8_taken_43 rfl rfl ?_
            refine wp_callS0 (d' := d - 1) cs_RX8_475 [(0, 2)] [] rfl rfl (Nat.le_of_ble_eq_true rfl) dX8_taken_44 rfl (Nat.le_of_ble_eq_true rfl) (by omega) (loc1 := [(0, 2)]) rfl ?_
            refine wp_iload_n dX8_over_0 rfl rfl ?_
            refine wp_if_ne (tgt := 8) dX8_over_1 (by decide) (fun _ => ?_) (fun h => absurd h (by decide))
            refine wp_iload_n dX8_over_8 rfl rfl ?_
            refine wp_iconst dX8_over_9 (by decide) ?_
            refine wp_icmp_ne (tgt := 17) dX8_over_10 (by decide) (fun _ => ?_) (fun h => absurd h (by decide))
            refine wp_iload_n dX8_over_17 rfl rfl ?_
            refine wp_iconst dX8_over_18 (by decide) ?_
            refine wp_icmp_ne (tgt := 26) dX8_over_19 (by decide) (fun _ => ?_) (fun h => absurd h (by decide))
            refine wp_iconst dX8_over_26 (by decide) ?_
            refine wp_iret rfl dX8_over_27 ?_
            refine wp_istore_n (loc' := [(2, 69), (0, x), (0, y), (0, 0)]) dX8_taken_47 rfl (Nat.le_of_ble_eq_true rfl) rfl ?_
            refine wp_goto (tgt := 33) dX8_taken_48 (by decide) ?_
            refine wp_iload_n dX8_taken_33 rfl rfl ?_
            refine wp_iconst dX8_taken_34 (by decide) ?_
            refine wp_icmp_eq (tgt := 51) dX8_taken_35 (by decide) (fun h => absurd h (by decide)) (fun _ => ?_)
            refine wp_iload_n dX8_taken_38 rfl rfl ?_
            refine wp_iload_n dX8_taken_39 rfl rfl ?_
            refine wp_icmp_eq (tgt := 51) dX8_taken_40 (by decide) (fun h40 => ?_) (fun h40 => ?_)
            · refine wp_iload_n dX8_taken_51 rfl rfl ?_
              refine wp_iload_n dX8_taken_52 rfl rfl ?_
              refine wp_icmp_ne (tgt := 67) dX8_taken_53 (by decide) (fun h53 => ?_) (fun h53 => ?_)
              · refine wp_bipush dX8_taken_67 (by decide) (by decide) ?_
                refine wp_iret rfl dX8_taken_69 ?_
                have q : undr (A.2 0 x.toNat) y = false := by rw [hk]; exact decide_eq_false (by rw [show overK 4 = 2 from rfl, show overK 2 = 0 from rfl]; omega)
                rw [show tknA A x y = (-13) from (if_neg (by omega)).trans ((if_neg (by omega)).trans (if_neg (by rw [q]; decide)))] at k
                exact k
              · refine wp_aload_n dX8_taken_56 rfl rfl ?_
                refine wp_get 69 rfl fl_RX8_26 rfl ⟨by omega, by omega⟩ dX8_taken_57 rfl (v := 74) (sr_69_9 (M := M) hR) ?_
                refine wp_iconst dX8_taken_60 (by decide) ?_
                refine wp_iload_n dX8_taken_61 rfl rfl ?_
                refine wp_imul dX8_taken_62 (by omega) ?_
                refine wp_iald 74 rfl rfl ⟨by omega, by omega⟩ ⟨by omega, by omega⟩ dX8_taken_63 (v := (A.2 1 x.toNat)) (by rw [show ((4 * x)).toNat = (4 * x.toNat) by omega]; exact hA.2.2.2.2.2.1 0 x.toNat (by omega) (by omega)) ?_
                refine wp_goto (tgt := 69) dX8_taken_64 (by decide) ?_
                refine wp_iret rfl dX8_taken_69 ?_
                have q : undr (A.2 0 x.toNat) y = true := by rw [hk]; exact decide_eq_true (by rw [show overK 4 = 2 from rfl, show overK 2 = 0 from rfl]; omega)
                rw [show tknA A x y = (A.2 1 x.toNat) from (if_neg (by omega)).trans ((if_neg (by omega)).trans (if_pos q))] at k
                exact k
            · refine wp_iload_n dX8_taken_43 rfl rfl ?_
              refine wp_callS0 (d' := d - 1) cs_RX8_475 [(0, 0)] [] rfl rfl (Nat.le_of_ble_eq_true rfl) dX8_taken_44 rfl (Nat.le_of_ble_eq_true rfl) (by omega) (loc1 := [(0, 0)]) rfl ?_
              refine wp_iload_n dX8_over_0 rfl rfl ?_
              refine wp_if_ne (tgt := 8) dX8_over_1 (by decide) (fun h => absurd h (by decide)) (fun _ => ?_)
              refine wp_iconst dX8_over_4 (by decide) ?_
              refine wp_goto (tgt := 27) dX8_over_5 (by decide) ?_
              refine wp_iret rfl dX8_over_27 ?_
              refine wp_istore_n (loc' := [(2, 69), (0, x), (0, y), (0, (-1))]) dX8_taken_47 rfl (Nat.le_of_ble_eq_true rfl) rfl ?_
              refine wp_goto (tgt := 33) dX8_taken_48 (by decide) ?_
              refine wp_iload_n dX8_taken_33 rfl rfl ?_
              refine wp_iconst dX8_taken_34 (by decide) ?_
              refine wp_icmp_eq (tgt := 51) dX8_taken_35 (by decide) (fun _ => ?_) (fun h => absurd h (by decide))
              refine wp_iload_n dX8_taken_51 rfl rfl ?_
              refine wp_iload_n dX8_taken_52 rfl rfl ?_
              refine wp_icmp_ne (tgt := 67) dX8_taken_53 (by decide) (fun h53 => ?_) (fun h53 => ?_)
              · refine wp_bipush dX8_taken_67 (by decide) (by decide) ?_
                refine wp_iret rfl dX8_taken_69 ?_
                have q : undr (A.2 0 x.toNat) y = false := by rw [hk]; exact decide_eq_false (by rw [show overK 4 = 2 from rfl, show overK 2 = 0 from rfl]; omega)
                rw [show tknA A x y = (-13) from (if_neg (by omega)).trans ((if_neg (by omega)).trans (if_neg (by rw [q]; decide)))] at k
                exact k
              · refine wp_aload_n dX8_taken_56 rfl rfl ?_
                refine wp_get 69 rfl fl_RX8_26 rfl ⟨by omega, by omega⟩ dX8_taken_57 rfl (v := 74) (sr_69_9 (M := M) hR) ?_
                refine wp_iconst dX8_taken_60 (by decide) ?_
                refine wp_iload_n dX8_taken_61 rfl rfl ?_
                refine wp_imul dX8_taken_62 (by omega) ?_
                refine wp_iald 74 rfl rfl ⟨by omega, by omega⟩ ⟨by omega, by omega⟩ dX8_taken_63 (v := (A.2 1 x.toNat)) (by rw [show ((4 * x)).toNat = (4 * x.toNat) by omega]; exact hA.2.2.2.2.2.1 0 x.toNat (by omega) (by omega)) ?_
                refine wp_goto (tgt := 69) dX8_taken_64 (by decide) ?_
                refine wp_iret rfl dX8_taken_69 ?_
                have q : undr (A.2 0 x.toNat) y = true := by rw [hk]; exact decide_eq_true (by rw [show overK 4 = 2 from rfl, show overK 2 = 0 from rfl]; omega)
                rw [show tknA A x y = (A.2 1 x.toNat) from (if_neg (by omega)).trans ((if_neg (by omega)).trans (if_pos q))] at k
                exact k
      · refine wp_aload_n dX8_taken_26 rfl rfl ?_
        refine wp_get 69 rfl fl_RX8_23 rfl ⟨by omega, by omega⟩ dX8_taken_27 rfl (v := 73) (sr_69_8 (M := M) hR) ?_
        refine wp_iload_n dX8_taken_30 rfl rfl ?_
        refine wp_iald 73 rfl rfl ⟨by omega, by omega⟩ ⟨by omega, by omega⟩ dX8_taken_31 (v := 5) (by rw [show (x).toNat = x.toNat by omega]; exact ((hA.2.2.2.2.1 x.toNat (by omega)).trans hk)) ?_
        refine wp_istore_n (loc' := [(2, 69), (0, x), (0, y), (0, 5)]) dX8_taken_32 rfl (Nat.le_of_ble_eq_true rfl) rfl ?_
        refine wp_iload_n dX8_taken_33 rfl rfl ?_
        refine wp_iconst dX8_taken_34 (by decide) ?_
        refine wp_icmp_eq (tgt := 51) dX8_taken_35 (by decide) (fun h => absurd h (by decide)) (fun _ => ?_)
        refine wp_iload_n dX8_taken_38 rfl rfl ?_
        refine wp_iload_n dX8_taken_39 rfl rfl ?_
        refine wp_icmp_eq (tgt := 51) dX8_taken_40 (by decide) (fun h40 => ?_) (fun h40 => ?_)
        · refine wp_iload_n dX8_taken_51 rfl rfl ?_
          refine wp_iload_n dX8_taken_52 rfl rfl ?_
          refine wp_icmp_ne (tgt := 67) dX8_taken_53 (by decide) (fun h53 => ?_) (fun h53 => ?_)
          · refine wp_bipush dX8_taken_67 (by decide) (by decide) ?_
            refine wp_iret rfl dX8_taken_69 ?_
            have q : undr (A.2 0 x.toNat) y = false := by rw [hk]; exact decide_eq_false (by rw [show overK 5 = 0 from rfl, show overK 0 = (-1) from rfl]; omega)
            rw [show tknA A x y = (-13) from (if_neg (by omega)).trans ((if_neg (by omega)).trans (if_neg (by rw [q]; decide)))] at k
            exact k
          · refine wp_aload_n dX8_taken_56 rfl rfl ?_
            refine wp_get 69 rfl fl_RX8_26 rfl ⟨by omega, by omega⟩ dX8_taken_57 rfl (v := 74) (sr_69_9 (M := M) hR) ?_
            refine wp_iconst dX8_taken_60 (by decide) ?_
            refine wp_iload_n dX8_taken_61 rfl rfl ?_
            refine wp_imul dX8_taken_62 (by omega) ?_
            refine wp_iald 74 rfl rfl ⟨by omega, by omega⟩ ⟨by omega, by omega⟩ dX8_taken_63 (v := (A.2 1 x.toNat)) (by rw [show ((4 * x)).toNat = (4 * x.toNat) by omega]; exact hA.2.2.2.2.2.1 0 x.toNat (by omega) (by omega)) ?_
            refine wp_goto (tgt := 69) dX8_taken_64 (by decide) ?_
            refine wp_iret rfl dX8_taken_69 ?_
            have q : undr (A.2 0 x.toNat) y = true := by rw [hk]; exact decide_eq_true (by rw [show overK 5 = 0 from rfl, show overK 0 = (-1) from rfl]; omega)
            rw [show tknA A x y = (A.2 1 x.toNat) from (if_neg (by omega)).trans ((if_neg (by omega)).trans (if_pos q))] at k
            exact k
        · refine wp_iload_n dX8_taken_43 rfl rfl ?_
          refine wp_callS0 (d' := d - 1) cs_RX8_475 [(0, 5)] [] rfl rfl (Nat.le_of_ble_eq_true rfl) dX8_taken_44 rfl (Nat.le_of_ble_eq_true rfl) (by omega) (loc1 := [(0, 5)]) rfl ?_
          refine wp_iload_n dX8_over_0 rfl rfl ?_
          refine wp_if_ne (tgt := 8) dX8_over_1 (by decide) (fun _ => ?_) (fun h => absurd h (by decide))
          refine wp_iload_n dX8_over_8 rfl rfl ?_
          refine wp_iconst dX8_over_9 (by decide) ?_
          refine wp_icmp_ne (tgt := 17) dX8_over_10 (by decide) (fun _ => ?_) (fun h => absurd h (by decide))
          refine wp_iload_n dX8_over_17 rfl rfl ?_
          refine wp_iconst dX8_over_18 (by decide) ?_
          refine wp_icmp_ne (tgt := 26) dX8_over_19 (by decide) (fun _ => ?_) (fun h => absurd h (by decide))
          refine wp_iconst dX8_over_26 (by decide) ?_
          refine wp_iret rfl dX8_over_27 ?_
          refine wp_istore_n (loc' := [(2, 69), (0, x), (0, y), (0, 0)]) dX8_taken_47 rfl (Nat.le_of_ble_eq_true rfl) rfl ?_
          refine wp_goto (tgt := 33) dX8_taken_48 (by decide) ?_
          refine wp_iload_n dX8_taken_33 rfl rfl ?_
          refine wp_iconst dX8_taken_34 (by decide) ?_
          refine wp_icmp_eq (tgt := 51) dX8_taken_35 (by decide) (fun h => absurd h (by decide)) (fun _ => ?_)
          refine wp_iload_n dX8_taken_38 rfl rfl ?_
          refine wp_iload_n dX8_taken_39 rfl rfl ?_
          refine wp_icmp_eq (tgt := 51) dX8_taken_40 (by decide) (fun h40 => ?_) (fun h40 => ?_)
          · refine wp_iload_n dX8_taken_51 rfl rfl ?_
            refine wp_iload_n dX8_taken_52 rfl rfl ?_
            refine wp_icmp_ne (tgt := 67) dX8_taken_53 (by decide) (fun h53 => ?_) (fun h53 => ?_)
            · refine wp_bipush dX8_taken_67 (by decide) (by decide) ?_
              refine wp_iret rfl dX8_taken_69 ?_
              have q : undr (A.2 0 x.toNat) y = false := by rw [hk]; exact decide_eq_false (by rw [show overK 5 = 0 from rfl, show overK 0 = (-1) from rfl]; omega)
              rw [show tknA A x y = (-13) from (if_neg (by omega)).trans ((if_neg (by omega)).trans (if_neg (by rw [q]; decide)))] at k
              exact k
            · refine wp_aload_n dX8_taken_56 rfl rfl ?_
              refine wp_get 69 rfl fl_RX8_26 rfl ⟨by omega, by omega⟩ dX8_taken_57 rfl (v := 74) (sr_69_9 (M := M) hR) ?_
              refine wp_iconst dX8_taken_60 (by decide) ?_
              refine wp_iload_n dX8_taken_61 rfl rfl ?_
              refine wp_imul dX8_taken_62 (by omega) ?_
              refine wp_iald 74 rfl rfl ⟨by omega, by omega⟩ ⟨by omega, by omega⟩ dX8_taken_63 (v := (A.2 1 x.toNat)) (by rw [show ((4 * x)).toNat = (4 * x.toNat) by omega]; exact hA.2.2.2.2.2.1 0 x.toNat (by omega) (by omega)) ?_
              refine wp_goto (tgt := 69) dX8_taken_64 (by decide) ?_
              refine wp_iret rfl dX8_taken_69 ?_
              have q : undr (A.2 0 x.toNat) y = true := by rw [hk]; exact decide_eq_true (by rw [show overK 5 = 0 from rfl, show overK 0 = (-1) from rfl]; omega)
              rw [show tknA A x y = (A.2 1 x.toNat) from (if_neg (by omega)).trans ((if_neg (by omega)).trans (if_pos q))] at k
              exact k
          · refine wp_iload_n dX8_taken_43 rfl rfl ?_
            refine wp_callS0 (d' := d - 1) cs_RX8_475 [(0, 0)] [] rfl rfl (Nat.le_of_ble_eq_true rfl) dX8_taken_44 rfl (Nat.le_of_ble_eq_true rfl) (by omega) (loc1 := [(0, 0)]) rfl ?_
            refine wp_iload_n dX8_over_0 rfl rfl ?_
            refine wp_if_ne (tgt := 8) dX8_over_1 (by decide) (fun h => absurd h (by decide)) (fun _ => ?_)
            refine wp_iconst dX8_over_4 (by decide) ?_
            refine wp_goto (tgt := 27) dX8_over_5 (by decide) ?_
            refine wp_iret rfl dX8_over_27 ?_
            refine wp_istore_n (loc' := [(2, 69), (0, x), (0, y), (0, (-1))]) dX8_taken_47 rfl (Nat.le_of_ble_eq_true rfl) rfl ?_
            refine wp_goto (tgt := 33) dX8_taken_48 (by decide) ?_
            refine wp_iload_n dX8_taken_33 rfl rfl ?_
            refine wp_iconst dX8_taken_34 (by decide) ?_
            refine wp_icmp_eq (tgt := 51) dX8_taken_35 (by decide) (fun _ => ?_) (fun h => absurd h (by decide))
            refine wp_iload_n dX8_taken_51 rfl rfl ?_
            refine wp_iload_n dX8_taken_52 rfl rfl ?_
            refine wp_icmp_ne (tgt := 67) dX8_taken_53 (by decide) (fun h53 => ?_) (fun h53 => ?_)
            · refine wp_bipush dX8_taken_67 (by decide) (by decide) ?_
              refine wp_iret rfl dX8_taken_69 ?_
              have q : undr (A.2 0 x.toNat) y = false := by rw [hk]; exact decide_eq_false (by rw [show overK 5 = 0 from rfl, show overK 0 = (-1) from rfl]; omega)
              rw [show tknA A x y = (-13) from (if_neg (by omega)).trans ((if_neg (by omega)).trans (if_neg (by rw [q]; decide)))] at k
              exact k
            · refine wp_aload_n dX8_taken_56 rfl rfl ?_
              refine wp_get 69 rfl fl_RX8_26 rfl ⟨by omega, by omega⟩ dX8_taken_57 rfl (v := 74) (sr_69_9 (M := M) hR) ?_
              refine wp_iconst dX8_taken_60 (by decide) ?_
              refine wp_iload_n dX8_taken_61 rfl rfl ?_
              refine wp_imul dX8_taken_62 (by omega) ?_
              refine wp_iald 74 rfl rfl ⟨by omega, by omega⟩ ⟨by omega, by omega⟩ dX8_taken_63 (v := (A.2 1 x.toNat)) (by rw [show ((4 * x)).toNat = (4 * x.toNat) by omega]; exact hA.2.2.2.2.2.1 0 x.toNat (by omega) (by omega)) ?_
              refine wp_goto (tgt := 69) dX8_taken_64 (by decide) ?_
              refine wp_iret rfl dX8_taken_69 ?_
              have q : undr (A.2 0 x.toNat) y = true := by rw [hk]; exact decide_eq_true (by rw [show overK 5 = 0 from rfl, show overK 0 = (-1) from rfl]; omega)
              rw [show tknA A x y = (A.2 1 x.toNat) from (if_neg (by omega)).trans ((if_neg (by omega)).trans (if_pos q))] at k
              exact k
    · refine wp_if_ne (tgt := 26) dX8_taken_20 (by decide) (fun h => absurd h (by decide)) (fun _ => ?_)
      refine wp_bipush dX8_taken_23 (by decide) (by decide) ?_
      refine wp_iret rfl dX8_taken_25 ?_
      rw [show tknA A x y = -11 from (if_neg (by omega)).trans (if_pos (by omega))] at k
      exact k
  · refine wp_if_ne (tgt := 15) dX8_taken_9 (by decide) (fun h => absurd h (by decide)) (fun _ => ?_)
    refine wp_bipush dX8_taken_12 (by decide) (by decide) ?_
    refine wp_iret rfl dX8_taken_14 ?_
    rw [show tknA A x y = -2 from if_pos (by omega)] at k
    exact k
