/-! ===== the class's reader: the grammar ===== -/
def VJ (T i j : Nat) : Prop := (i = 23 ∧ 3 ≤ j) ∨ (i = T ∧ j = 2) ∨ i = T + 1
theorem VJ.sr {M M' : Mm} {T : Nat} (hT : isT T) (h : Fr (VJ T) M M') (hR : SRr M) : SRr M' := by
  refine hR.of (fun q hq => h _ _ ?_)
  have hall : ∀ q ∈ srK, ∀ T ∈ [27, 31, 35, 39, 43, 47], ¬ ((q.1 = 23 ∧ 3 ≤ q.2.1) ∨ (q.1 = T ∧ q.2.1 = 2) ∨ q.1 = T + 1) := by decide +kernel
  refine hall q hq T ?_
  rcases hT with rfl | rfl | rfl | rfl | rfl | rfl <;> decide
theorem VR.j {T : Nat} : ∀ i j, VR i j → VJ T i j := fun i j h => Or.inl h
theorem VR36.j {T : Nat} : ∀ i j, VR36 i j → VJ T i j := fun i j h => Or.inl (VR36.r i j h)
theorem TP.frJ {M M' : Mm} {f : Nat → Int} {z : Int} {T : Nat} (hT : isT T) (h : TP M f z) (g : Fr (VJ T) M M') : TP M' f z := by
  obtain ⟨h1, h2, h3, h4, h5⟩ := h
  have hb := hT.b
  exact ⟨VJ.sr hT g h1, (funext fun j => g 24 j (by unfold VJ; omega)).trans h2, (g 23 1 (by unfold VJ; omega)).trans h3, h4, h5⟩
/-- the code that is written -/
def CD (M : Mm) (T : Nat) (c : List Int) : Prop := M T 2 = (c.length : Int) ∧ ∀ i : Nat, i < c.length → M (T + 1) i = c.getD i 0
theorem CD.fr {M M' : Mm} {T : Nat} {c : List Int} (h : CD M T c) (hT : isT T) (f : Fr VR M M') : CD M' T c := by
  have hb := hT.b
  exact ⟨(f T 2 (by unfold VR; omega)).trans h.1, fun i hi => (f (T + 1) i (by unfold VR; omega)).trans (h.2 i hi)⟩
theorem CD.put {M : Mm} {T : Nat} {c : List Int} (h : CD M T c) (v : Int) : CD (mu (mu M (T + 1) (M T 2).toNat v) T 2 (M T 2 + 1)) T (c ++ [v]) := by
  obtain ⟨h1, h2⟩ := h
  have e : (M T 2).toNat = c.length := by omega
  refine ⟨?_, fun i hi => ?_⟩
  · rw [mu_self, h1]; simp
  · rw [mu_ne _ _ _ (by omega), e]
    simp only [List.length_append, List.length_cons, List.length_nil] at hi
    by_cases q : i = c.length
    · subst q
      rw [mu_self]
      simp [List.getD_eq_getElem?_getD]
    · rw [mu_nj _ _ _ (by omega), h2 i (by omega)]
      simp only [List.getD_eq_getElem?_getD]
      rw [List.getElem?_append_left (by omega)]
/-- reading: the token sought from x is at hand, c is written, o are open -/
def RJ (M : Mm) (f : Nat → Int) (z : Int) (T x : Nat) (c : List Int) (o : Int) : Prop := TP M f z ∧ M 23 2 = (T : Int) ∧ LXJ M f z x ∧ M 23 7 = o ∧ M 23 8 = -1 ∧ CD M T c
/-- a fault was found at p -/
def DJ (M : Mm) (f : Nat → Int) (z : Int) (T p : Nat) (o : Int) : Prop := TP M f z ∧ M 23 2 = (T : Int) ∧ M 23 5 = 1 ∧ M 23 7 = o ∧ M 23 8 = (p : Int)
theorem RJ.step {M M' : Mm} {f : Nat → Int} {z : Int} {T x y : Nat} {c : List Int} {o : Int} (h : RJ M f z T x c o) (hT : isT T) (g : Fr VR36 M M') (hL : LXJ M' f z y) : RJ M' f z T y c o := by
  obtain ⟨a, b, _, d, e, k⟩ := h
  exact ⟨a.fr (g.mono VR36.r), (g 23 2 (by unfold VR36; omega)).trans b, hL, (g 23 7 (by unfold VR36; omega)).trans d, (g 23 8 (by unfold VR36; omega)).trans e, k.fr hT (g.mono VR36.r)⟩
theorem fr7 {M : Mm} {v : Int} : Fr VR M (mu M 23 7 v) := Fr.rf.put ⟨rfl, by omega⟩
theorem RJ.opn {M : Mm} {f : Nat → Int} {z : Int} {T x : Nat} {c : List Int} {o v w : Int} (h : RJ M f z T x c o) (hT : isT T) (e : v = w) : RJ (mu M 23 7 v) f z T x c w := by
  obtain ⟨a, b, q, d, r, k⟩ := h
  exact ⟨a.fr fr7, b, q, e, r, k.fr hT fr7⟩
theorem DJ.opn {M : Mm} {f : Nat → Int} {z : Int} {T p : Nat} {o v w : Int} (h : DJ M f z T p o) (e : v = w) : DJ (mu M 23 7 v) f z T p w := by
  obtain ⟨a, b, q, d, r⟩ := h
  exact ⟨a.fr fr7, b, q, e, r⟩
theorem RJ.wrt {M : Mm} {f : Nat → Int} {z : Int} {T x : Nat} {c : List Int} {o : Int} (h : RJ M f z T x c o) (hT : isT T) (v : Int) (g : Fr (VJ T) M (mu (mu M (T + 1) (M T 2).toNat v) T 2 (M T 2 + 1))) : RJ (mu (mu M (T + 1) (M T 2).toNat v) T 2 (M T 2 + 1)) f z T x (c ++ [v]) o := by
  obtain ⟨a, b, ⟨q1, q2, q3, q4⟩, d, r, k⟩ := h
  have hb := hT.b
  have e : ∀ j, mu (mu M (T + 1) (M T 2).toNat v) T 2 (M T 2 + 1) 23 j = M 23 j := fun j => (mu_ne _ _ _ (by omega) _).trans (mu_ne _ _ _ (by omega) _)
  exact ⟨a.frJ hT g, (e 2).trans b, ⟨(e 3).trans q1, (e 4).trans q2, (e 5).trans q3, fun h => (e 6).trans (q4 h)⟩, (e 7).trans d, (e 8).trans r, k.put v⟩
theorem DJ.wrt {M M' : Mm} {f : Nat → Int} {z : Int} {T p : Nat} {o : Int} (h : DJ M f z T p o) (hT : isT T) (g : Fr (VJ T) M M') (e : ∀ j, M' 23 j = M 23 j) : DJ M' f z T p o := by
  obtain ⟨a, b, q, d, r⟩ := h
  exact ⟨a.frJ hT g, (e 2).trans b, (e 5).trans q, (e 7).trans d, (e 8).trans r⟩
/-- what a method of the reader leaves -/
def PoJ (M : Mm) (f : Nat → Int) (z : Int) (T : Nat) (o : Int) (c : List Int) (r : PR) (M' : Mm) : Prop := Fr (VJ T) M M' ∧ match r with
  | .inl p => DJ M' f z T p o
  | .inr q => RJ M' f z T q.1 (c ++ q.2.1) o
def CMr (l : Launch) (g : Gw) (n : Nat) (f : Nat → Int) (z : Int) (T : Nat) (μ : Md) (ls : List Wd) (B : Nat) (o : Int) (P : Nat → PR) : Prop :=
  ∀ (d : Nat) (M : Mm) (Q : Option Wd → Mm → Prop) (x : Nat) (c : List Int), B ≤ d → RJ M f z T x c o → (x : Int) ≤ z → c.length ≤ x → (∀ M', PoJ M f z T o c (P x) M' → Q none M') → Wp l g d 0 0 n μ 0 [] ((2, 23) :: ls) M Q
def CMd (l : Launch) (g : Gw) (n : Nat) (f : Nat → Int) (z : Int) (T : Nat) (μ : Md) (ls : List Wd) (B : Nat) : Prop :=
  ∀ (d : Nat) (M : Mm) (Q : Option Wd → Mm → Prop) (p : Nat) (o : Int), B ≤ d → DJ M f z T p o → (∀ M', Fr (VJ T) M M' → DJ M' f z T p o → Q none M') → Wp l g d 0 0 n μ 0 [] ((2, 23) :: ls) M Q
set_option maxRecDepth 20000 in
set_option maxHeartbeats 4000000 in
theorem sp_write {l : Launch} {g : Gw} {d n : Nat} {M : Mm} {Q : Option Wd → Mm → Prop} {T : Nat} (hT : isT T) (hn : 60 ≤ n) {f : Nat → Int} {z : Int} {x : Nat} {c : List Int} {o : Int} (hJ : RJ M f z T x c o) (hl : c.length < 160) (v : Int) (k : ∀ M', RJ M' f z T x (c ++ [v]) o → Fr (VJ T) M M' → Q none M') : Wp l g d 0 0 n m_X5_write 0 [] [(2, (T : Int)), (0, v)] M Q := by
  have hR := hJ.1.1
  have hb := hT.b
  have h1 := hJ.2.2.2.2.2.1
  refine wp_aload_n dX5_write_0 rfl rfl ?_
  refine wp_get T rfl fl_RX5_21 hT.k0 ⟨by omega, by omega⟩ dX5_write_1 rfl (v := (M T 2)) (rfl) ?_
  refine wp_if_lt (tgt := 39) dX5_write_4 (by decide) (fun h => absurd h (by omega)) (fun _ => ?_)
  refine wp_aload_n dX5_write_7 rfl rfl ?_
  refine wp_get T rfl fl_RX5_21 hT.k0 ⟨by omega, by omega⟩ dX5_write_8 rfl (v := (M T 2)) (rfl) ?_
  refine wp_aload_n dX5_write_11 rfl rfl ?_
  refine wp_get T rfl fl_RX5_9 hT.k0 ⟨by omega, by omega⟩ dX5_write_12 rfl (v := ((T + 1 : Nat) : Int)) (hT.q0 hR) ?_
  refine wp_alen (T + 1) rfl hT.k1 (by decide) (by decide) ⟨by omega, by omega⟩ dX5_write_15 ?_
  refine wp_icmp_ge (tgt := 39) dX5_write_16 (by decide) (fun h => absurd h (by omega)) (fun _ => ?_)
  refine wp_aload_n dX5_write_19 rfl rfl ?_
  refine wp_get T rfl fl_RX5_9 hT.k0 ⟨by omega, by omega⟩ dX5_write_20 rfl (v := ((T + 1 : Nat) : Int)) (hT.q0 hR) ?_
  refine wp_aload_n dX5_write_23 rfl rfl ?_
  refine wp_get T rfl fl_RX5_21 hT.k0 ⟨by omega, by omega⟩ dX5_write_24 rfl (v := (M T 2)) (rfl) ?_
  refine wp_iload_n dX5_write_27 rfl rfl ?_
  refine wp_iast (T + 1) rfl hT.k1 ⟨by omega, by omega⟩ ⟨by omega, by omega⟩ dX5_write_28 (jn := ((M T 2)).toNat) rfl ?_
  refine wp_aload_n dX5_write_29 rfl rfl ?_
  refine wp_dup dX5_write_30 (Or.inr rfl) ?_
  refine wp_get T rfl fl_RX5_21 hT.k0 ⟨by omega, by omega⟩ dX5_write_31 rfl (v := (M T 2)) ((mu_ne _ _ _ (by omega) _).trans (rfl)) ?_
  refine wp_iconst dX5_write_34 (by decide) ?_
  refine wp_iadd dX5_write_35 (by omega) ?_
  refine wp_puti T rfl fl_RX5_21 hT.k0 ⟨by omega, by omega⟩ dX5_write_36 rfl rfl ?_
  refine wp_vret rfl dX5_write_39 ?_
  have f : Fr (VJ T) M (mu (mu M (T + 1) (M T 2).toNat v) T 2 (M T 2 + 1)) := (Fr.rf.put (Or.inr (Or.inr rfl))).put (Or.inr (Or.inl ⟨rfl, rfl⟩))
  exact k _ (hJ.wrt hT v f) f
set_option maxRecDepth 20000 in
set_option maxHeartbeats 4000000 in
theorem sp_writeD {l : Launch} {g : Gw} {d n : Nat} {M : Mm} {Q : Option Wd → Mm → Prop} {T : Nat} (hT : isT T) (hn : 60 ≤ n) {f : Nat → Int} {z : Int} {p : Nat} {o : Int} (hD : DJ M f z T p o) (v : Int) (k : ∀ M', DJ M' f z T p o → Fr (VJ T) M M' → Q none M') : Wp l g d 0 0 n m_X5_write 0 [] [(2, (T : Int)), (0, v)] M Q := by
  have hR := hD.1.1
  have hb := hT.b
  refine wp_aload_n dX5_write_0 rfl rfl ?_
  refine wp_get T rfl fl_RX5_21 hT.k0 ⟨by omega, by omega⟩ dX5_write_1 rfl (v := (M T 2)) (rfl) ?_
  refine wp_if_lt (tgt := 39) dX5_write_4 (by decide) (fun h4 => ?_) (fun h4 => ?_)
  · refine wp_vret rfl dX5_write_39 ?_
    exact k _ hD Fr.rf
  · refine wp_aload_n dX5_write_7 rfl rfl ?_
    refine wp_get T rfl fl_RX5_21 hT.k0 ⟨by omega, by omega⟩ dX5_write_8 rfl (v := (M T 2)) (rfl) ?_
    refine wp_aload_n dX5_write_11 rfl rfl ?_
    refine wp_get T rfl fl_RX5_9 hT.k0 ⟨by omega, by omega⟩ dX5_write_12 rfl (v := ((T + 1 : Nat) : Int)) (hT.q0 hR) ?_
    refine wp_alen (T + 1) rfl hT.k1 (by decide) (by decide) ⟨by omega, by omega⟩ dX5_write_15 ?_
    refine wp_icmp_ge (tgt := 39) dX5_write_16 (by decide) (fun h16 => ?_) (fun h16 => ?_)
    · refine wp_vret rfl dX5_write_39 ?_
      exact k _ hD Fr.rf
    · refine wp_aload_n dX5_write_19 rfl rfl ?_
      refine wp_get T rfl fl_RX5_9 hT.k0 ⟨by omega, by omega⟩ dX5_write_20 rfl (v := ((T + 1 : Nat) : Int)) (hT.q0 hR) ?_
      refine wp_aload_n dX5_write_23 rfl rfl ?_
      refine wp_get T rfl fl_RX5_21 hT.k0 ⟨by omega, by omega⟩ dX5_write_24 rfl (v := (M T 2)) (rfl) ?_
      refine wp_iload_n dX5_write_27 rfl rfl ?_
      refine wp_iast (T + 1) rfl hT.k1 ⟨by omega, by omega⟩ ⟨by omega, by omega⟩ dX5_write_28 (jn := ((M T 2)).toNat) rfl ?_
      refine wp_aload_n dX5_write_29 rfl rfl ?_
      refine wp_dup dX5_write_30 (Or.inr rfl) ?_
      refine wp_get T rfl fl_RX5_21 hT.k0 ⟨by omega, by omega⟩ dX5_write_31 rfl (v := (M T 2)) ((mu_ne _ _ _ (by omega) _).trans (rfl)) ?_
      refine wp_iconst dX5_write_34 (by decide) ?_
      refine wp_iadd dX5_write_35 (by omega) ?_
      refine wp_puti T rfl fl_RX5_21 hT.k0 ⟨by omega, by omega⟩ dX5_write_36 rfl rfl ?_
      refine wp_vret rfl dX5_write_39 ?_
      have f : Fr (VJ T) M (mu (mu M (T + 1) (M T 2).toNat v) T 2 (M T 2 + 1)) := (Fr.rf.put (Or.inr (Or.inr rfl))).put (Or.inr (Or.inl ⟨rfl, rfl⟩))
      exact k _ (hD.wrt hT f (fun j => (mu_ne _ _ _ (by omega) _).trans (mu_ne _ _ _ (by omega) _))) f
set_option maxRecDepth 20000 in
set_option maxHeartbeats 4000000 in
theorem sp_fail {l : Launch} {g : Gw} {d n : Nat} {M : Mm} {Q : Option Wd → Mm → Prop} {T : Nat} (hT : isT T) (hn : 60 ≤ n) {f : Nat → Int} {z : Int} {x : Nat} {c : List Int} {o : Int} (hJ : RJ M f z T x c o) (k : ∀ M', DJ M' f z T (lxA f z x) o → Fr (VJ T) M M' → Q none M') : Wp l g d 0 0 n m_X2_fail 0 [] [(2, 23)] M Q := by
  refine wp_aload_n dX2_fail_0 rfl rfl ?_
  refine wp_get 23 rfl fl_RX2_48 rfl ⟨by omega, by omega⟩ dX2_fail_1 rfl (v := (-1)) (hJ.2.2.2.2.1) ?_
  refine wp_iconst dX2_fail_4 (by decide) ?_
  refine wp_icmp_ne (tgt := 16) dX2_fail_5 (by decide) (fun h => absurd h (by decide)) (fun _ => ?_)
  refine wp_aload_n dX2_fail_8 rfl rfl ?_
  refine wp_aload_n dX2_fail_9 rfl rfl ?_
  refine wp_get 23 rfl fl_RX2_64 rfl ⟨by omega, by omega⟩ dX2_fail_10 rfl (v := ((lxA f z x : Nat) : Int)) (hJ.2.2.1.1) ?_
  refine wp_puti 23 rfl fl_RX2_48 rfl ⟨by omega, by omega⟩ dX2_fail_13 rfl rfl ?_
  refine wp_aload_n dX2_fail_16 rfl rfl ?_
  refine wp_iconst dX2_fail_17 (by decide) ?_
  refine wp_puti 23 rfl fl_RX2_67 rfl ⟨by omega, by omega⟩ dX2_fail_18 rfl rfl ?_
  refine wp_vret rfl dX2_fail_21 ?_
  have f1 : Fr VR M (mu (mu M 23 8 ((lxA f z x : Nat) : Int)) 23 5 1) := (Fr.rf.put ⟨rfl, by omega⟩).put ⟨rfl, by omega⟩
  exact k _ ⟨hJ.1.fr f1, hJ.2.1, rfl, hJ.2.2.2.1, rfl⟩ (f1.mono VR.j)
set_option maxRecDepth 20000 in
set_option maxHeartbeats 4000000 in
theorem sp_failD {l : Launch} {g : Gw} {d n : Nat} {M : Mm} {Q : Option Wd → Mm → Prop} {T : Nat} (hT : isT T) (hn : 60 ≤ n) {f : Nat → Int} {z : Int} {p : Nat} {o : Int} (hD : DJ M f z T p o) (k : ∀ M', DJ M' f z T p o → Fr (VJ T) M M' → Q none M') : Wp l g d 0 0 n m_X2_fail 0 [] [(2, 23)] M Q := by
  refine wp_aload_n dX2_fail_0 rfl rfl ?_
  refine wp_get 23 rfl fl_RX2_48 rfl ⟨by omega, by omega⟩ dX2_fail_1 rfl (v := (p : Int)) (hD.2.2.2.2) ?_
  refine wp_iconst dX2_fail_4 (by decide) ?_
  refine wp_icmp_ne (tgt := 16) dX2_fail_5 (by decide) (fun _ => ?_) (fun h => absurd h (by omega))
  refine wp_aload_n dX2_fail_16 rfl rfl ?_
  refine wp_iconst dX2_fail_17 (by decide) ?_
  refine wp_puti 23 rfl fl_RX2_67 rfl ⟨by omega, by omega⟩ dX2_fail_18 rfl rfl ?_
  refine wp_vret rfl dX2_fail_21 ?_
  have f1 : Fr VR M (mu M 23 5 1) := Fr.rf.put ⟨rfl, by omega⟩
  exact k _ ⟨hD.1.fr f1, hD.2.1, rfl, hD.2.2.2.1, hD.2.2.2.2⟩ (f1.mono VR.j)
set_option maxRecDepth 20000 in
set_option maxHeartbeats 4000000 in
theorem sp_want {l : Launch} {g : Gw} {d n : Nat} {M : Mm} {Q : Option Wd → Mm → Prop} {T : Nat} (hT : isT T) (hn : 60 ≤ n) {f : Nat → Int} {z : Int} (hd : 10 ≤ d) (hB : BT f z) {x : Nat} {c : List Int} {o : Int} (hJ : RJ M f z T x c o) (hx : (x : Int) ≤ z) (q : Int) (kt : lxT f z x = q → ∀ M', RJ M' f z T (lxN f z x) c o → Fr (VJ T) M M' → Q none M') (kf : lxT f z x ≠ q → ∀ M', DJ M' f z T (lxA f z x) o → Fr (VJ T) M M' → Q none M') : Wp l g d 0 0 n m_X2_want 0 [] [(2, 23), (0, q)] M Q := by
  refine wp_aload_n dX2_want_0 rfl rfl ?_
  refine wp_get 23 rfl fl_RX2_67 rfl ⟨by omega, by omega⟩ dX2_want_1 rfl (v := (lxT f z x)) (hJ.2.2.1.2.2.1) ?_
  refine wp_iload_n dX2_want_4 rfl rfl ?_
  refine wp_icmp_ne (tgt := 15) dX2_want_5 (by decide) (fun h5 => ?_) (fun h5 => ?_)
  · refine wp_aload_n dX2_want_15 rfl rfl ?_
    refine wp_callV0 (d' := d - 1) cv_RX2_70 23 rfl [] [] rfl rfl (Or.inl ⟨_, _, rfl, by decide, rfl, by omega, by omega⟩) (by omega) (Nat.le_of_ble_eq_true rfl) dX2_want_16 rfl (Nat.le_of_ble_eq_true rfl) (by omega) (loc1 := [(2, 23)]) rfl ?_
    refine sp_fail hT hn hJ (fun M1 hJ1 f1 => ?_)
    refine wp_vret rfl dX2_want_19 ?_
    exact kf h5 M1 hJ1 f1
  · refine wp_aload_n dX2_want_8 rfl rfl ?_
    refine wp_callV0 (d' := d - 1) cv_RX2_51 23 rfl [] [] rfl rfl (Or.inl ⟨_, _, rfl, by decide, rfl, by omega, by omega⟩) (by omega) (Nat.le_of_ble_eq_true rfl) dX2_want_9 rfl (Nat.le_of_ble_eq_true rfl) (by omega) (loc1 := [(2, 23), (9, 0)]) rfl ?_
    refine sp_step hn hJ.1 (by omega) hB hJ.2.2.1.2.1 (lxN_le hx).1 (fun M1 f1 l1 => ?_)
    have hJ1 := hJ.step hT f1 l1
    refine wp_goto (tgt := 19) dX2_want_12 (by decide) ?_
    refine wp_vret rfl dX2_want_19 ?_
    exact kt h5 M1 hJ1 (f1.mono VR36.j)
set_option maxRecDepth 20000 in
set_option maxHeartbeats 4000000 in
theorem sp_wantD {l : Launch} {g : Gw} {d n : Nat} {M : Mm} {Q : Option Wd → Mm → Prop} {T : Nat} (hT : isT T) (hn : 60 ≤ n) {f : Nat → Int} {z : Int} (hd : 10 ≤ d) {p : Nat} {o : Int} (hD : DJ M f z T p o) {q : Int} (hq : q ≠ 1) (k : ∀ M', DJ M' f z T p o → Fr (VJ T) M M' → Q none M') : Wp l g d 0 0 n m_X2_want 0 [] [(2, 23), (0, q)] M Q := by
  refine wp_aload_n dX2_want_0 rfl rfl ?_
  refine wp_get 23 rfl fl_RX2_67 rfl ⟨by omega, by omega⟩ dX2_want_1 rfl (v := 1) (hD.2.2.1) ?_
  refine wp_iload_n dX2_want_4 rfl rfl ?_
  refine wp_icmp_ne (tgt := 15) dX2_want_5 (by decide) (fun _ => ?_) (fun h => absurd h (by omega))
  refine wp_aload_n dX2_want_15 rfl rfl ?_
  refine wp_callV0 (d' := d - 1) cv_RX2_70 23 rfl [] [] rfl rfl (Or.inl ⟨_, _, rfl, by decide, rfl, by omega, by omega⟩) (by omega) (Nat.le_of_ble_eq_true rfl) dX2_want_16 rfl (Nat.le_of_ble_eq_true rfl) (by omega) (loc1 := [(2, 23)]) rfl ?_
  refine sp_failD hT hn hD (fun M1 hD1 f1 => ?_)
  refine wp_vret rfl dX2_want_19 ?_
  exact k M1 hD1 f1
set_option maxRecDepth 20000 in
set_option maxHeartbeats 4000000 in
theorem sp_opens {l : Launch} {g : Gw} {d n : Nat} {M : Mm} {Q : Option Wd → Mm → Prop} {T : Nat} (hT : isT T) (hn : 60 ≤ n) {f : Nat → Int} {z : Int} (hd : 2 ≤ d) {x : Nat} {c : List Int} {o : Int} (hJ : RJ M f z T x c o) (ho : 0 ≤ o ∧ o < 5) (k : ∀ M', RJ M' f z T x c (o + 1) → Fr (VJ T) M M' → Q (some (0, 1)) M') : Wp l g d 0 0 n m_X2_opens 0 [] [(2, 23)] M Q := by
  refine wp_aload_n dX2_opens_0 rfl rfl ?_
  refine wp_get 23 rfl fl_RX2_45 rfl ⟨by omega, by omega⟩ dX2_opens_1 rfl (v := o) (hJ.2.2.2.1) ?_
  refine wp_iconst dX2_opens_4 (by decide) ?_
  refine wp_icmp_lt (tgt := 14) dX2_opens_5 (by decide) (fun _ => ?_) (fun h => absurd h (by omega))
  refine wp_aload_n dX2_opens_14 rfl rfl ?_
  refine wp_dup dX2_opens_15 (Or.inr rfl) ?_
  refine wp_get 23 rfl fl_RX2_45 rfl ⟨by omega, by omega⟩ dX2_opens_16 rfl (v := o) (hJ.2.2.2.1) ?_
  refine wp_iconst dX2_opens_19 (by decide) ?_
  refine wp_iadd dX2_opens_20 (by omega) ?_
  refine wp_puti 23 rfl fl_RX2_45 rfl ⟨by omega, by omega⟩ dX2_opens_21 rfl rfl ?_
  refine wp_iconst dX2_opens_24 (by decide) ?_
  refine wp_zret rfl (by omega) dX2_opens_25 ?_
  exact k _ (hJ.opn hT rfl) (fr7.mono VR.j)
set_option maxRecDepth 20000 in
set_option maxHeartbeats 4000000 in
theorem sp_opensF {l : Launch} {g : Gw} {d n : Nat} {M : Mm} {Q : Option Wd → Mm → Prop} {T : Nat} (hT : isT T) (hn : 60 ≤ n) {f : Nat → Int} {z : Int} (hd : 2 ≤ d) {x : Nat} {c : List Int} {o : Int} (hJ : RJ M f z T x c o) (ho : o = 5) (k : ∀ M', DJ M' f z T (lxA f z x) o → Fr (VJ T) M M' → Q (some (0, 0)) M') : Wp l g d 0 0 n m_X2_opens 0 [] [(2, 23)] M Q := by
  refine wp_aload_n dX2_opens_0 rfl rfl ?_
  refine wp_get 23 rfl fl_RX2_45 rfl ⟨by omega, by omega⟩ dX2_opens_1 rfl (v := o) (hJ.2.2.2.1) ?_
  refine wp_iconst dX2_opens_4 (by decide) ?_
  refine wp_icmp_lt (tgt := 14) dX2_opens_5 (by decide) (fun h => absurd h (by omega)) (fun _ => ?_)
  refine wp_aload_n dX2_opens_8 rfl rfl ?_
  refine wp_callV0 (d' := d - 1) cv_RX2_70 23 rfl [] [] rfl rfl (Or.inl ⟨_, _, rfl, by decide, rfl, by omega, by omega⟩) (by omega) (Nat.le_of_ble_eq_true rfl) dX2_opens_9 rfl (Nat.le_of_ble_eq_true rfl) (by omega) (loc1 := [(2, 23)]) rfl ?_
  refine sp_fail hT hn hJ (fun M1 hJ1 f1 => ?_)
  refine wp_iconst dX2_opens_12 (by decide) ?_
  refine wp_zret rfl (by omega) dX2_opens_13 ?_
  exact k _ hJ1 f1
set_option maxRecDepth 20000 in
set_option maxHeartbeats 4000000 in
theorem ctd_One {l : Launch} {g : Gw} {n : Nat} {T : Nat} (hT : isT T) (hn : 60 ≤ n) {f : Nat → Int} {z : Int} : CMd l g n f z T m_X2_readOne [] 12 := by
  intro d M0 Q p o hd hD k
  refine wp_aload_n dX2_readOne_0 rfl rfl ?_
  refine wp_get 23 rfl fl_RX2_67 rfl ⟨by omega, by omega⟩ dX2_readOne_1 rfl (v := 1) (hD.2.2.1) ?_
  refine wp_iconst dX2_readOne_4 (by decide) ?_
  refine wp_icmp_ne (tgt := 26) dX2_readOne_5 (by decide) (fun _ => ?_) (fun h => absurd h (by decide))
  refine wp_aload_n dX2_readOne_26 rfl rfl ?_
  refine wp_get 23 rfl fl_RX2_67 rfl ⟨by omega, by omega⟩ dX2_readOne_27 rfl (v := 1) (hD.2.2.1) ?_
  refine wp_sipush dX2_readOne_30 (by decide) (by decide) ?_
  refine wp_icmp_lt (tgt := 70) dX2_readOne_33 (by decide) (fun _ => ?_) (fun h => absurd h (by decide))
  refine wp_aload_n dX2_readOne_70 rfl rfl ?_
  refine wp_get 23 rfl fl_RX2_67 rfl ⟨by omega, by omega⟩ dX2_readOne_71 rfl (v := 1) (hD.2.2.1) ?_
  refine wp_bipush dX2_readOne_74 (by decide) (by decide) ?_
  refine wp_icmp_ne (tgt := 116) dX2_readOne_76 (by decide) (fun _ => ?_) (fun h => absurd h (by decide))
  refine wp_aload_n dX2_readOne_116 rfl rfl ?_
  refine wp_get 23 rfl fl_RX2_67 rfl ⟨by omega, by omega⟩ dX2_readOne_117 rfl (v := 1) (hD.2.2.1) ?_
  refine wp_bipush dX2_readOne_120 (by decide) (by decide) ?_
  refine wp_icmp_ne (tgt := 159) dX2_readOne_122 (by decide) (fun _ => ?_) (fun h => absurd h (by decide))
  refine wp_aload_n dX2_readOne_159 rfl rfl ?_
  refine wp_callV0 (d' := d - 1) cv_RX2_70 23 rfl [] [] rfl rfl (Or.inl ⟨_, _, rfl, by decide, rfl, by omega, by omega⟩) (by omega) (Nat.le_of_ble_eq_true rfl) dX2_readOne_160 rfl (Nat.le_of_ble_eq_true rfl) (by omega) (loc1 := [(2, 23)]) rfl ?_
  refine sp_failD hT hn hD (fun M1 D1 f1 => ?_)
  have F1 := (Fr.rf).tr f1
  refine wp_vret rfl dX2_readOne_163 ?_
  exact k _ (F1) D1
set_option maxRecDepth 20000 in
set_option maxHeartbeats 4000000 in
theorem ctd_Term {l : Launch} {g : Gw} {n : Nat} {T : Nat} (hT : isT T) (hn : 60 ≤ n) {f : Nat → Int} {z : Int} : CMd l g n f z T m_X2_readTerm [(9, 0)] 13 := by
  intro d M0 Q p o hd hD k
  refine wp_aload_n dX2_readTerm_0 rfl rfl ?_
  refine wp_callV0 (d' := d - 1) cv_RX2_95 23 rfl [] [] rfl rfl (Or.inl ⟨_, _, rfl, by decide, rfl, by omega, by omega⟩) (by omega) (Nat.le_of_ble_eq_true rfl) dX2_readTerm_1 rfl (Nat.le_of_ble_eq_true rfl) (by omega) (loc1 := [(2, 23)]) rfl ?_
  refine (ctd_One hT hn) _ _ _ _ _ (by omega) hD (fun M1 f1 D1 => ?_)
  have F1 := (Fr.rf).tr f1
  refine wp_iconst dX2_readTerm_4 (by decide) ?_
  refine wp_istore_n (loc' := [(2, 23), (0, 0)]) dX2_readTerm_5 rfl (Nat.le_of_ble_eq_true rfl) rfl ?_
  refine wp_iload_n dX2_readTerm_6 rfl rfl ?_
  refine wp_sipush dX2_readTerm_7 (by decide) (by decide) ?_
  refine wp_icmp_ge (tgt := 45) dX2_readTerm_10 (by decide) (fun h => absurd h (by decide)) (fun _ => ?_)
  refine wp_aload_n dX2_readTerm_13 rfl rfl ?_
  refine wp_get 23 rfl fl_RX2_67 rfl ⟨by omega, by omega⟩ dX2_readTerm_14 rfl (v := 1) (D1.2.2.1) ?_
  refine wp_bipush dX2_readTerm_17 (by decide) (by decide) ?_
  refine wp_icmp_ne (tgt := 45) dX2_readTerm_19 (by decide) (fun _ => ?_) (fun h => absurd h (by decide))
  refine wp_vret rfl dX2_readTerm_45 ?_
  exact k _ (F1) D1
set_option maxRecDepth 20000 in
set_option maxHeartbeats 4000000 in
theorem lpd_Term {l : Launch} {g : Gw} {n : Nat} {T : Nat} (hT : isT T) (hn : 60 ≤ n) {f : Nat → Int} {z : Int} {d : Nat} {M0 : Mm} {Q : Option Wd → Mm → Prop} {p : Nat} {o i : Int} (hD : DJ M0 f z T p o) (k : ∀ M', Fr (VJ T) M0 M' → DJ M' f z T p o → Q none M') : Wp l g d 0 0 n m_X2_readTerm 6 [] [(2, 23), (0, i)] M0 Q := by
  refine wp_iload_n dX2_readTerm_6 rfl rfl ?_
  refine wp_sipush dX2_readTerm_7 (by decide) (by decide) ?_
  refine wp_icmp_ge (tgt := 45) dX2_readTerm_10 (by decide) (fun h10 => ?_) (fun h10 => ?_)
  · refine wp_vret rfl dX2_readTerm_45 ?_
    exact k _ (Fr.rf) hD
  · refine wp_aload_n dX2_readTerm_13 rfl rfl ?_
    refine wp_get 23 rfl fl_RX2_67 rfl ⟨by omega, by omega⟩ dX2_readTerm_14 rfl (v := 1) (hD.2.2.1) ?_
    refine wp_bipush dX2_readTerm_17 (by decide) (by decide) ?_
    refine wp_icmp_ne (tgt := 45) dX2_readTerm_19 (by decide) (fun _ => ?_) (fun h => absurd h (by decide))
    refine wp_vret rfl dX2_readTerm_45 ?_
    exact k _ (Fr.rf) hD
set_option maxRecDepth 20000 in
set_option maxHeartbeats 4000000 in
theorem ctd_Sum {l : Launch} {g : Gw} {n : Nat} {T : Nat} (hT : isT T) (hn : 60 ≤ n) {f : Nat → Int} {z : Int} : CMd l g n f z T m_X2_readSum [(9, 0), (9, 0)] 14 := by
  intro d M0 Q p o hd hD k
  refine wp_aload_n dX2_readSum_0 rfl rfl ?_
  refine wp_callV0 (d' := d - 1) cv_RX2_92 23 rfl [] [] rfl rfl (Or.inl ⟨_, _, rfl, by decide, rfl, by omega, by omega⟩) (by omega) (Nat.le_of_ble_eq_true rfl) dX2_readSum_1 rfl (Nat.le_of_ble_eq_true rfl) (by omega) (loc1 := [(2, 23), (9, 0)]) rfl ?_
  refine (ctd_Term hT hn) _ _ _ _ _ (by omega) hD (fun M1 f1 D1 => ?_)
  have F1 := (Fr.rf).tr f1
  refine wp_iconst dX2_readSum_4 (by decide) ?_
  refine wp_istore_n (loc' := [(2, 23), (0, 0), (9, 0)]) dX2_readSum_5 rfl (Nat.le_of_ble_eq_true rfl) rfl ?_
  refine wp_iload_n dX2_readSum_6 rfl rfl ?_
  refine wp_sipush dX2_readSum_7 (by decide) (by decide) ?_
  refine wp_icmp_ge (tgt := 70) dX2_readSum_10 (by decide) (fun h => absurd h (by decide)) (fun _ => ?_)
  refine wp_aload_n dX2_readSum_13 rfl rfl ?_
  refine wp_get 23 rfl fl_RX2_67 rfl ⟨by omega, by omega⟩ dX2_readSum_14 rfl (v := 1) (D1.2.2.1) ?_
  refine wp_bipush dX2_readSum_17 (by decide) (by decide) ?_
  refine wp_icmp_eq (tgt := 31) dX2_readSum_19 (by decide) (fun h => absurd h (by decide)) (fun _ => ?_)
  refine wp_aload_n dX2_readSum_22 rfl rfl ?_
  refine wp_get 23 rfl fl_RX2_67 rfl ⟨by omega, by omega⟩ dX2_readSum_23 rfl (v := 1) (D1.2.2.1) ?_
  refine wp_bipush dX2_readSum_26 (by decide) (by decide) ?_
  refine wp_icmp_ne (tgt := 70) dX2_readSum_28 (by decide) (fun _ => ?_) (fun h => absurd h (by decide))
  refine wp_vret rfl dX2_readSum_70 ?_
  exact k _ (F1) D1
set_option maxRecDepth 20000 in
set_option maxHeartbeats 4000000 in
theorem lpd_Sum {l : Launch} {g : Gw} {n : Nat} {T : Nat} (hT : isT T) (hn : 60 ≤ n) {f : Nat → Int} {z : Int} {d : Nat} {M0 : Mm} {Q : Option Wd → Mm → Prop} {p : Nat} {o i : Int} {u : Wd} (hD : DJ M0 f z T p o) (k : ∀ M', Fr (VJ T) M0 M' → DJ M' f z T p o → Q none M') : Wp l g d 0 0 n m_X2_readSum 6 [] [(2, 23), (0, i), u] M0 Q := by
  refine wp_iload_n dX2_readSum_6 rfl rfl ?_
  refine wp_sipush dX2_readSum_7 (by decide) (by decide) ?_
  refine wp_icmp_ge (tgt := 70) dX2_readSum_10 (by decide) (fun h10 => ?_) (fun h10 => ?_)
  · refine wp_vret rfl dX2_readSum_70 ?_
    exact k _ (Fr.rf) hD
  · refine wp_aload_n dX2_readSum_13 rfl rfl ?_
    refine wp_get 23 rfl fl_RX2_67 rfl ⟨by omega, by omega⟩ dX2_readSum_14 rfl (v := 1) (hD.2.2.1) ?_
    refine wp_bipush dX2_readSum_17 (by decide) (by decide) ?_
    refine wp_icmp_eq (tgt := 31) dX2_readSum_19 (by decide) (fun h => absurd h (by decide)) (fun _ => ?_)
    refine wp_aload_n dX2_readSum_22 rfl rfl ?_
    refine wp_get 23 rfl fl_RX2_67 rfl ⟨by omega, by omega⟩ dX2_readSum_23 rfl (v := 1) (hD.2.2.1) ?_
    refine wp_bipush dX2_readSum_26 (by decide) (by decide) ?_
    refine wp_icmp_ne (tgt := 70) dX2_readSum_28 (by decide) (fun _ => ?_) (fun h => absurd h (by decide))
    refine wp_vret rfl dX2_readSum_70 ?_
    exact k _ (Fr.rf) hD
set_option maxRecDepth 20000 in
set_option maxHeartbeats 4000000 in
theorem ctd_Compared {l : Launch} {g : Gw} {n : Nat} {T : Nat} (hT : isT T) (hn : 60 ≤ n) {f : Nat → Int} {z : Int} : CMd l g n f z T m_X2_readCompared [(9, 0)] 15 := by
  intro d M0 Q p o hd hD k
  refine wp_aload_n dX2_readCompared_0 rfl rfl ?_
  refine wp_callV0 (d' := d - 1) cv_RX2_89 23 rfl [] [] rfl rfl (Or.inl ⟨_, _, rfl, by decide, rfl, by omega, by omega⟩) (by omega) (Nat.le_of_ble_eq_true rfl) dX2_readCompared_1 rfl (Nat.le_of_ble_eq_true rfl) (by omega) (loc1 := [(2, 23), (9, 0), (9, 0)]) rfl ?_
  refine (ctd_Sum hT hn) _ _ _ _ _ (by omega) hD (fun M1 f1 D1 => ?_)
  have F1 := (Fr.rf).tr f1
  refine wp_aload_n dX2_readCompared_4 rfl rfl ?_
  refine wp_get 23 rfl fl_RX2_67 rfl ⟨by omega, by omega⟩ dX2_readCompared_5 rfl (v := 1) (D1.2.2.1) ?_
  refine wp_bipush dX2_readCompared_8 (by decide) (by decide) ?_
  refine wp_icmp_eq (tgt := 22) dX2_readCompared_10 (by decide) (fun h => absurd h (by decide)) (fun _ => ?_)
  refine wp_aload_n dX2_readCompared_13 rfl rfl ?_
  refine wp_get 23 rfl fl_RX2_67 rfl ⟨by omega, by omega⟩ dX2_readCompared_14 rfl (v := 1) (D1.2.2.1) ?_
  refine wp_bipush dX2_readCompared_17 (by decide) (by decide) ?_
  refine wp_icmp_ne (tgt := 55) dX2_readCompared_19 (by decide) (fun _ => ?_) (fun h => absurd h (by decide))
  refine wp_vret rfl dX2_readCompared_55 ?_
  exact k _ (F1) D1
set_option maxRecDepth 20000 in
set_option maxHeartbeats 4000000 in
theorem ctd_Not {l : Launch} {g : Gw} {n : Nat} {T : Nat} (hT : isT T) (hn : 60 ≤ n) {f : Nat → Int} {z : Int} : CMd l g n f z T m_X2_readNot [] 16 := by
  intro d M0 Q p o hd hD k
  refine wp_aload_n dX2_readNot_0 rfl rfl ?_
  refine wp_get 23 rfl fl_RX2_67 rfl ⟨by omega, by omega⟩ dX2_readNot_1 rfl (v := 1) (hD.2.2.1) ?_
  refine wp_sipush dX2_readNot_4 (by decide) (by decide) ?_
  refine wp_icmp_eq (tgt := 17) dX2_readNot_7 (by decide) (fun h => absurd h (by decide)) (fun _ => ?_)
  refine wp_aload_n dX2_readNot_10 rfl rfl ?_
  refine wp_callV0 (d' := d - 1) cv_RX2_82 23 rfl [] [] rfl rfl (Or.inl ⟨_, _, rfl, by decide, rfl, by omega, by omega⟩) (by omega) (Nat.le_of_ble_eq_true rfl) dX2_readNot_11 rfl (Nat.le_of_ble_eq_true rfl) (by omega) (loc1 := [(2, 23), (9, 0)]) rfl ?_
  refine (ctd_Compared hT hn) _ _ _ _ _ (by omega) hD (fun M1 f1 D1 => ?_)
  have F1 := (Fr.rf).tr f1
  refine wp_goto (tgt := 51) dX2_readNot_14 (by decide) ?_
  refine wp_vret rfl dX2_readNot_51 ?_
  exact k _ (F1) D1
set_option maxRecDepth 20000 in
set_option maxHeartbeats 4000000 in
theorem ctd_And {l : Launch} {g : Gw} {n : Nat} {T : Nat} (hT : isT T) (hn : 60 ≤ n) {f : Nat → Int} {z : Int} : CMd l g n f z T m_X2_readAnd [(9, 0)] 17 := by
  intro d M0 Q p o hd hD k
  refine wp_aload_n dX2_readAnd_0 rfl rfl ?_
  refine wp_callV0 (d' := d - 1) cv_RX2_79 23 rfl [] [] rfl rfl (Or.inl ⟨_, _, rfl, by decide, rfl, by omega, by omega⟩) (by omega) (Nat.le_of_ble_eq_true rfl) dX2_readAnd_1 rfl (Nat.le_of_ble_eq_true rfl) (by omega) (loc1 := [(2, 23)]) rfl ?_
  refine (ctd_Not hT hn) _ _ _ _ _ (by omega) hD (fun M1 f1 D1 => ?_)
  have F1 := (Fr.rf).tr f1
  refine wp_iconst dX2_readAnd_4 (by decide) ?_
  refine wp_istore_n (loc' := [(2, 23), (0, 0)]) dX2_readAnd_5 rfl (Nat.le_of_ble_eq_true rfl) rfl ?_
  refine wp_iload_n dX2_readAnd_6 rfl rfl ?_
  refine wp_sipush dX2_readAnd_7 (by decide) (by decide) ?_
  refine wp_icmp_ge (tgt := 46) dX2_readAnd_10 (by decide) (fun h => absurd h (by decide)) (fun _ => ?_)
  refine wp_aload_n dX2_readAnd_13 rfl rfl ?_
  refine wp_get 23 rfl fl_RX2_67 rfl ⟨by omega, by omega⟩ dX2_readAnd_14 rfl (v := 1) (D1.2.2.1) ?_
  refine wp_sipush dX2_readAnd_17 (by decide) (by decide) ?_
  refine wp_icmp_ne (tgt := 46) dX2_readAnd_20 (by decide) (fun _ => ?_) (fun h => absurd h (by decide))
  refine wp_vret rfl dX2_readAnd_46 ?_
  exact k _ (F1) D1
set_option maxRecDepth 20000 in
set_option maxHeartbeats 4000000 in
theorem lpd_And {l : Launch} {g : Gw} {n : Nat} {T : Nat} (hT : isT T) (hn : 60 ≤ n) {f : Nat → Int} {z : Int} {d : Nat} {M0 : Mm} {Q : Option Wd → Mm → Prop} {p : Nat} {o i : Int} (hD : DJ M0 f z T p o) (k : ∀ M', Fr (VJ T) M0 M' → DJ M' f z T p o → Q none M') : Wp l g d 0 0 n m_X2_readAnd 6 [] [(2, 23), (0, i)] M0 Q := by
  refine wp_iload_n dX2_readAnd_6 rfl rfl ?_
  refine wp_sipush dX2_readAnd_7 (by decide) (by decide) ?_
  refine wp_icmp_ge (tgt := 46) dX2_readAnd_10 (by decide) (fun h10 => ?_) (fun h10 => ?_)
  · refine wp_vret rfl dX2_readAnd_46 ?_
    exact k _ (Fr.rf) hD
  · refine wp_aload_n dX2_readAnd_13 rfl rfl ?_
    refine wp_get 23 rfl fl_RX2_67 rfl ⟨by omega, by omega⟩ dX2_readAnd_14 rfl (v := 1) (hD.2.2.1) ?_
    refine wp_sipush dX2_readAnd_17 (by decide) (by decide) ?_
    refine wp_icmp_ne (tgt := 46) dX2_readAnd_20 (by decide) (fun _ => ?_) (fun h => absurd h (by decide))
    refine wp_vret rfl dX2_readAnd_46 ?_
    exact k _ (Fr.rf) hD
set_option maxRecDepth 20000 in
set_option maxHeartbeats 4000000 in
theorem ctd_Or {l : Launch} {g : Gw} {n : Nat} {T : Nat} (hT : isT T) (hn : 60 ≤ n) {f : Nat → Int} {z : Int} : CMd l g n f z T m_X2_readOr [(9, 0)] 18 := by
  intro d M0 Q p o hd hD k
  refine wp_aload_n dX2_readOr_0 rfl rfl ?_
  refine wp_callV0 (d' := d - 1) cv_RX2_73 23 rfl [] [] rfl rfl (Or.inl ⟨_, _, rfl, by decide, rfl, by omega, by omega⟩) (by omega) (Nat.le_of_ble_eq_true rfl) dX2_readOr_1 rfl (Nat.le_of_ble_eq_true rfl) (by omega) (loc1 := [(2, 23), (9, 0)]) rfl ?_
  refine (ctd_And hT hn) _ _ _ _ _ (by omega) hD (fun M1 f1 D1 => ?_)
  have F1 := (Fr.rf).tr f1
  refine wp_iconst dX2_readOr_4 (by decide) ?_
  refine wp_istore_n (loc' := [(2, 23), (0, 0)]) dX2_readOr_5 rfl (Nat.le_of_ble_eq_true rfl) rfl ?_
  refine wp_iload_n dX2_readOr_6 rfl rfl ?_
  refine wp_sipush dX2_readOr_7 (by decide) (by decide) ?_
  refine wp_icmp_ge (tgt := 46) dX2_readOr_10 (by decide) (fun h => absurd h (by decide)) (fun _ => ?_)
  refine wp_aload_n dX2_readOr_13 rfl rfl ?_
  refine wp_get 23 rfl fl_RX2_67 rfl ⟨by omega, by omega⟩ dX2_readOr_14 rfl (v := 1) (D1.2.2.1) ?_
  refine wp_sipush dX2_readOr_17 (by decide) (by decide) ?_
  refine wp_icmp_ne (tgt := 46) dX2_readOr_20 (by decide) (fun _ => ?_) (fun h => absurd h (by decide))
  refine wp_vret rfl dX2_readOr_46 ?_
  exact k _ (F1) D1
set_option maxRecDepth 20000 in
set_option maxHeartbeats 4000000 in
theorem lpd_Or {l : Launch} {g : Gw} {n : Nat} {T : Nat} (hT : isT T) (hn : 60 ≤ n) {f : Nat → Int} {z : Int} {d : Nat} {M0 : Mm} {Q : Option Wd → Mm → Prop} {p : Nat} {o i : Int} (hD : DJ M0 f z T p o) (k : ∀ M', Fr (VJ T) M0 M' → DJ M' f z T p o → Q none M') : Wp l g d 0 0 n m_X2_readOr 6 [] [(2, 23), (0, i)] M0 Q := by
  refine wp_iload_n dX2_readOr_6 rfl rfl ?_
  refine wp_sipush dX2_readOr_7 (by decide) (by decide) ?_
  refine wp_icmp_ge (tgt := 46) dX2_readOr_10 (by decide) (fun h10 => ?_) (fun h10 => ?_)
  · refine wp_vret rfl dX2_readOr_46 ?_
    exact k _ (Fr.rf) hD
  · refine wp_aload_n dX2_readOr_13 rfl rfl ?_
    refine wp_get 23 rfl fl_RX2_67 rfl ⟨by omega, by omega⟩ dX2_readOr_14 rfl (v := 1) (hD.2.2.1) ?_
    refine wp_sipush dX2_readOr_17 (by decide) (by decide) ?_
    refine wp_icmp_ne (tgt := 46) dX2_readOr_20 (by decide) (fun _ => ?_) (fun h => absurd h (by decide))
    refine wp_vret rfl dX2_readOr_46 ?_
    exact k _ (Fr.rf) hD
set_option maxRecDepth 20000 in
set_option maxHeartbeats 4000000 in
theorem lp_Term {l : Launch} {g : Gw} {n : Nat} {T : Nat} (hT : isT T) (hn : 60 ≤ n) {f : Nat → Int} {z : Int} {B : Nat} (hB12 : 12 ≤ B) (hB : BT f z) {o : Int} {P : Nat → PR} (hs : CMr l g n f z T m_X2_readOne [] B o P) (hsd : CMd l g n f z T m_X2_readOne [] B) (hq : ∀ x : Nat, (x : Int) ≤ z → PQ z x (P x)) {d : Nat} (hd : B + 1 ≤ d) {c : List Int} : ∀ (m i x : Nat) (ce : List Int) (v : Vl) (M0 : Mm) (Q : Option Wd → Mm → Prop), i + m = 160 → RJ M0 f z T x (c ++ ce) o → (x : Int) ≤ z → (c ++ ce).length ≤ x → (∀ M', PoJ M0 f z T o c (gL f z opT P m x ce v) M' → Q none M') → Wp l g d 0 0 n m_X2_readTerm 6 [] [(2, 23), (0, (i : Int))] M0 Q := by
  have hb := hT.b
  intro m
  induction m with
  | zero =>
    intro i x ce v M0 Q hi hJ hx hC k
    have hz1 := hJ.1.2.2.2.2
    refine wp_iload_n dX2_readTerm_6 rfl rfl ?_
    refine wp_sipush dX2_readTerm_7 (by decide) (by decide) ?_
    refine wp_icmp_ge (tgt := 45) dX2_readTerm_10 (by decide) (fun _ => ?_) (fun h => absurd h (by omega))
    refine wp_vret rfl dX2_readTerm_45 ?_
    exact k _ ⟨Fr.rf, hJ⟩
  | succ m ih =>
    intro i x ce v M0 Q hi hJ hx hC k
    have hz1 := hJ.1.2.2.2.2
    refine wp_iload_n dX2_readTerm_6 rfl rfl ?_
    refine wp_sipush dX2_readTerm_7 (by decide) (by decide) ?_
    refine wp_icmp_ge (tgt := 45) dX2_readTerm_10 (by decide) (fun h => absurd h (by omega)) (fun _ => ?_)
    refine wp_aload_n dX2_readTerm_13 rfl rfl ?_
    refine wp_get 23 rfl fl_RX2_67 rfl ⟨by omega, by omega⟩ dX2_readTerm_14 rfl (v := (lxT f z x)) (hJ.2.2.1.2.2.1) ?_
    refine wp_bipush dX2_readTerm_17 (by decide) (by decide) ?_
    refine wp_icmp_ne (tgt := 45) dX2_readTerm_19 (by decide) (fun h19 => ?_) (fun h19 => ?_)
    · refine wp_vret rfl dX2_readTerm_45 ?_
      have e : gL f z opT P (m + 1) x ce v = .inr (x, ce, v) := if_pos (show opT (lxT f z x) = 0 from if_neg h19)
      rw [e] at k
      exact k _ ⟨Fr.rf, hJ⟩
    · refine wp_aload_n dX2_readTerm_22 rfl rfl ?_
      refine wp_callV0 (d' := d - 1) cv_RX2_51 23 rfl [] [] rfl rfl (Or.inl ⟨_, _, rfl, by decide, rfl, by omega, by omega⟩) (by omega) (Nat.le_of_ble_eq_true rfl) dX2_readTerm_23 rfl (Nat.le_of_ble_eq_true rfl) (by omega) (loc1 := [(2, 23), (9, 0)]) rfl ?_
      refine sp_step hn (hJ).1 (by omega) hB (hJ).2.2.1.2.1 (lxN_le hx).1 (fun M1 f1 l1 => ?_)
      have J1 := (hJ).step hT f1 l1
      have F1 := ((Fr.rf : Fr (VJ T) M0 M0)).tr (f1.mono VR36.j)
      have X1 := lxN_le (f := f) hx
      have Y1 := lxA_le (f := f) hx
      have C1 : ((c ++ ce)).length + 1 ≤ (lxN f z x) := by have := hC; have := X1.2.2 (by omega); omega
      refine wp_aload_n dX2_readTerm_26 rfl rfl ?_
      refine wp_callV0 (d' := d - 1) cv_RX2_95 23 rfl [] [] rfl rfl (Or.inl ⟨_, _, rfl, by decide, rfl, by omega, by omega⟩) (by omega) (Nat.le_of_ble_eq_true rfl) dX2_readTerm_27 rfl (Nat.le_of_ble_eq_true rfl) (by omega) (loc1 := [(2, 23)]) rfl ?_
      refine hs _ _ _ _ _ (by omega) J1 X1.1 (by have := C1; omega) (fun M2 q2 => ?_)
      obtain ⟨f2, q2⟩ := q2
      have F2 := (F1).tr f2
      have b2 := hq _ X1.1
      generalize r2 : P (lxN f z x) = w2 at q2 b2
      rcases w2 with p2 | ⟨y2, c2, v2⟩
      · have D2 : DJ M2 f z T p2 o := q2
        refine wp_aload_n dX2_readTerm_30 rfl rfl ?_
        refine wp_get 23 rfl fl_RX2_33 rfl ⟨by omega, by omega⟩ dX2_readTerm_31 rfl (v := (T : Int)) (D2.2.1) ?_
        refine wp_bipush dX2_readTerm_34 (by decide) (by decide) ?_
        refine wp_callV0 (d' := d - 1) cv_RX2_76 T rfl [(0, (-14))] [] rfl rfl (Or.inl ⟨_, _, hT.k0, by decide, rfl, by omega, by omega⟩) (by omega) (Nat.le_of_ble_eq_true rfl) dX2_readTerm_36 rfl (Nat.le_of_ble_eq_true rfl) (by omega) (loc1 := [(2, (T : Int)), (0, (-14))]) rfl ?_
        refine sp_writeD hT hn D2 (-14) (fun M3 D3 f3 => ?_)
        have F3 := (F2).tr f3
        refine wp_iinc (loc' := [(2, 23), (0, ((i : Int) + 1))]) dX2_readTerm_39 rfl (by omega) rfl ?_
        refine wp_goto (tgt := 6) dX2_readTerm_42 (by decide) ?_
        have eo : opT (lxT f z x) = -14 := (if_pos h19)
        have e : gL f z opT P (m + 1) x ce v = pbd (P (lxN f z x)) (fun y c' v' => gL f z opT P m y (ce ++ c' ++ [opT (lxT f z x)]) (fun e => jn (opT (lxT f z x)) (v e) (v' e))) := if_neg (by rw [eo]; decide)
        rw [e, r2] at k
        exact lpd_Term hT hn (D3) (fun M9 f9 d9 => k M9 ⟨(F3).tr f9, d9⟩)
      · have J2 : RJ M2 f z T y2 ((c ++ ce) ++ c2) o := q2
        obtain ⟨b2, B2, _⟩ : (lxN f z x) + c2.length ≤ y2 ∧ (y2 : Int) ≤ z ∧ _ := b2
        have C2 : (((c ++ ce) ++ c2)).length + 1 ≤ y2 := by rw [List.length_append]; have := C1; omega
        refine wp_aload_n dX2_readTerm_30 rfl rfl ?_
        refine wp_get 23 rfl fl_RX2_33 rfl ⟨by omega, by omega⟩ dX2_readTerm_31 rfl (v := (T : Int)) (J2.2.1) ?_
        refine wp_bipush dX2_readTerm_34 (by decide) (by decide) ?_
        refine wp_callV0 (d' := d - 1) cv_RX2_76 T rfl [(0, (-14))] [] rfl rfl (Or.inl ⟨_, _, hT.k0, by decide, rfl, by omega, by omega⟩) (by omega) (Nat.le_of_ble_eq_true rfl) dX2_readTerm_36 rfl (Nat.le_of_ble_eq_true rfl) (by omega) (loc1 := [(2, (T : Int)), (0, (-14))]) rfl ?_
        refine sp_write hT hn J2 (by have := C2; have := B2; omega) (-14) (fun M4 J4 f4 => ?_)
        have F4 := (F2).tr f4
        have C4 : ((((c ++ ce) ++ c2) ++ [(-14)])).length ≤ y2 := by rw [List.length_append]; have := C2; show _ + 1 ≤ y2; omega
        refine wp_iinc (loc' := [(2, 23), (0, ((i : Int) + 1))]) dX2_readTerm_39 rfl (by omega) rfl ?_
        refine wp_goto (tgt := 6) dX2_readTerm_42 (by decide) ?_
        have eo : opT (lxT f z x) = -14 := (if_pos h19)
        have e : gL f z opT P (m + 1) x ce v = pbd (P (lxN f z x)) (fun y c' v' => gL f z opT P m y (ce ++ c' ++ [opT (lxT f z x)]) (fun e => jn (opT (lxT f z x)) (v e) (v' e))) := if_neg (by rw [eo]; decide)
        rw [e, r2] at k
        have Jn : RJ M4 f z T y2 (c ++ (ce ++ c2 ++ [opT (lxT f z x)])) o := by
          rw [eo]
          have := J4
          simpa [List.append_assoc] using this
        have Cn : (c ++ (ce ++ c2 ++ [opT (lxT f z x)])).length ≤ y2 := by
          have := C4
          simp only [List.length_append, List.length_cons, List.length_nil] at this ⊢
          omega
        exact ih (i + 1) y2 _ _ _ Q (by omega) Jn B2 Cn (fun M9 q9 => k M9 ⟨(F4).tr q9.1, q9.2⟩)
set_option maxRecDepth 20000 in
set_option maxHeartbeats 4000000 in
theorem ct_Term {l : Launch} {g : Gw} {n : Nat} {T : Nat} (hT : isT T) (hn : 60 ≤ n) {f : Nat → Int} {z : Int} {B : Nat} (hB12 : 12 ≤ B) (hB : BT f z) {o : Int} {P : Nat → PR} (hs : CMr l g n f z T m_X2_readOne [] B o P) (hsd : CMd l g n f z T m_X2_readOne [] B) (hq : ∀ x : Nat, (x : Int) ≤ z → PQ z x (P x)) : CMr l g n f z T m_X2_readTerm [(9, 0)] (B + 1) o (gBn f z opT 160 P) := by
  intro d M0 Q x c hd hJ hx hC k
  have hb := hT.b
  have hz1 := hJ.1.2.2.2.2
  refine wp_aload_n dX2_readTerm_0 rfl rfl ?_
  refine wp_callV0 (d' := d - 1) cv_RX2_95 23 rfl [] [] rfl rfl (Or.inl ⟨_, _, rfl, by decide, rfl, by omega, by omega⟩) (by omega) (Nat.le_of_ble_eq_true rfl) dX2_readTerm_1 rfl (Nat.le_of_ble_eq_true rfl) (by omega) (loc1 := [(2, 23)]) rfl ?_
  refine hs _ _ _ _ _ (by omega) hJ hx (by have := hC; omega) (fun M1 q1 => ?_)
  obtain ⟨f1, q1⟩ := q1
  have F1 := ((Fr.rf : Fr (VJ T) M0 M0)).tr f1
  have b1 := hq _ hx
  generalize r1 : P x = w1 at q1 b1
  rcases w1 with p1 | ⟨y1, c1, v1⟩
  · have D1 : DJ M1 f z T p1 o := q1
    refine wp_iconst dX2_readTerm_4 (by decide) ?_
    refine wp_istore_n (loc' := [(2, 23), (0, 0)]) dX2_readTerm_5 rfl (Nat.le_of_ble_eq_true rfl) rfl ?_
    have e : gBn f z opT 160 P x = pbd (P x) (fun y c v => gL f z opT P 160 y c v) := rfl
    rw [e, r1] at k
    exact lpd_Term hT hn (D1) (fun M9 f9 d9 => k M9 ⟨(F1).tr f9, d9⟩)
  · have J1 : RJ M1 f z T y1 (c ++ c1) o := q1
    obtain ⟨b1, B1, _⟩ : x + c1.length ≤ y1 ∧ (y1 : Int) ≤ z ∧ _ := b1
    have C1 : ((c ++ c1)).length ≤ y1 := by rw [List.length_append]; have := hC; omega
    refine wp_iconst dX2_readTerm_4 (by decide) ?_
    refine wp_istore_n (loc' := [(2, 23), (0, 0)]) dX2_readTerm_5 rfl (Nat.le_of_ble_eq_true rfl) rfl ?_
    have e : gBn f z opT 160 P x = pbd (P x) (fun y c v => gL f z opT P 160 y c v) := rfl
    rw [e, r1] at k
    exact lp_Term hT hn hB12 hB hs hsd hq hd 160 0 y1 c1 v1 _ Q (by omega) (J1) B1 (by have := C1; omega) (fun M9 q9 => k M9 ⟨(F1).tr q9.1, q9.2⟩)
set_option maxRecDepth 20000 in
set_option maxHeartbeats 4000000 in
theorem lp_Sum {l : Launch} {g : Gw} {n : Nat} {T : Nat} (hT : isT T) (hn : 60 ≤ n) {f : Nat → Int} {z : Int} {B : Nat} (hB12 : 12 ≤ B) (hB : BT f z) {o : Int} {P : Nat → PR} (hs : CMr l g n f z T m_X2_readTerm [(9, 0)] B o P) (hsd : CMd l g n f z T m_X2_readTerm [(9, 0)] B) (hq : ∀ x : Nat, (x : Int) ≤ z → PQ z x (P x)) {d : Nat} (hd : B + 1 ≤ d) {c : List Int} : ∀ (m i x : Nat) (ce : List Int) (v : Vl) (u : Wd) (M0 : Mm) (Q : Option Wd → Mm → Prop), i + m = 160 → RJ M0 f z T x (c ++ ce) o → (x : Int) ≤ z → (c ++ ce).length ≤ x → (∀ M', PoJ M0 f z T o c (gL f z opS P m x ce v) M' → Q none M') → Wp l g d 0 0 n m_X2_readSum 6 [] [(2, 23), (0, (i : Int)), u] M0 Q := by
  have hb := hT.b
  intro m
  induction m with
  | zero =>
    intro i x ce v u M0 Q hi hJ hx hC k
    have hz1 := hJ.1.2.2.2.2
    refine wp_iload_n dX2_readSum_6 rfl rfl ?_
    refine wp_sipush dX2_readSum_7 (by decide) (by decide) ?_
    refine wp_icmp_ge (tgt := 70) dX2_readSum_10 (by decide) (fun _ => ?_) (fun h => absurd h (by omega))
    refine wp_vret rfl dX2_readSum_70 ?_
    exact k _ ⟨Fr.rf, hJ⟩
  | succ m ih =>
    intro i x ce v u M0 Q hi hJ hx hC k
    have hz1 := hJ.1.2.2.2.2
    refine wp_iload_n dX2_readSum_6 rfl rfl ?_
    refine wp_sipush dX2_readSum_7 (by decide) (by decide) ?_
    refine wp_icmp_ge (tgt := 70) dX2_readSum_10 (by decide) (fun h => absurd h (by omega)) (fun _ => ?_)
    refine wp_aload_n dX2_readSum_13 rfl rfl ?_
    refine wp_get 23 rfl fl_RX2_67 rfl ⟨by omega, by omega⟩ dX2_readSum_14 rfl (v := (lxT f z x)) (hJ.2.2.1.2.2.1) ?_
    refine wp_bipush dX2_readSum_17 (by decide) (by decide) ?_
    refine wp_icmp_eq (tgt := 31) dX2_readSum_19 (by decide) (fun h19 => ?_) (fun h19 => ?_)
    · refine wp_aload_n dX2_readSum_31 rfl rfl ?_
      refine wp_get 23 rfl fl_RX2_67 rfl ⟨by omega, by omega⟩ dX2_readSum_32 rfl (v := (lxT f z x)) (hJ.2.2.1.2.2.1) ?_
      refine wp_bipush dX2_readSum_35 (by decide) (by decide) ?_
      refine wp_icmp_ne (tgt := 45) dX2_readSum_37 (by decide) (fun h37 => ?_) (fun h37 => ?_)
      · refine wp_bipush dX2_readSum_45 (by decide) (by decide) ?_
        refine wp_istore_n (loc' := [(2, 23), (0, (i : Int)), (0, (-13))]) dX2_readSum_47 rfl (Nat.le_of_ble_eq_true rfl) rfl ?_
        refine wp_aload_n dX2_readSum_48 rfl rfl ?_
        refine wp_callV0 (d' := d - 1) cv_RX2_51 23 rfl [] [] rfl rfl (Or.inl ⟨_, _, rfl, by decide, rfl, by omega, by omega⟩) (by omega) (Nat.le_of_ble_eq_true rfl) dX2_readSum_49 rfl (Nat.le_of_ble_eq_true rfl) (by omega) (loc1 := [(2, 23), (9, 0)]) rfl ?_
        refine sp_step hn (hJ).1 (by omega) hB (hJ).2.2.1.2.1 (lxN_le hx).1 (fun M1 f1 l1 => ?_)
        have J1 := (hJ).step hT f1 l1
        have F1 := ((Fr.rf : Fr (VJ T) M0 M0)).tr (f1.mono VR36.j)
        have X1 := lxN_le (f := f) hx
        have Y1 := lxA_le (f := f) hx
        have C1 : ((c ++ ce)).length + 1 ≤ (lxN f z x) := by have := hC; have := X1.2.2 (by omega); omega
        refine wp_aload_n dX2_readSum_52 rfl rfl ?_
        refine wp_callV0 (d' := d - 1) cv_RX2_92 23 rfl [] [] rfl rfl (Or.inl ⟨_, _, rfl, by decide, rfl, by omega, by omega⟩) (by omega) (Nat.le_of_ble_eq_true rfl) dX2_readSum_53 rfl (Nat.le_of_ble_eq_true rfl) (by omega) (loc1 := [(2, 23), (9, 0)]) rfl ?_
        refine hs _ _ _ _ _ (by omega) J1 X1.1 (by have := C1; omega) (fun M2 q2 => ?_)
        obtain ⟨f2, q2⟩ := q2
        have F2 := (F1).tr f2
        have b2 := hq _ X1.1
        generalize r2 : P (lxN f z x) = w2 at q2 b2
        rcases w2 with p2 | ⟨y2, c2, v2⟩
        · have D2 : DJ M2 f z T p2 o := q2
          refine wp_aload_n dX2_readSum_56 rfl rfl ?_
          refine wp_get 23 rfl fl_RX2_33 rfl ⟨by omega, by omega⟩ dX2_readSum_57 rfl (v := (T : Int)) (D2.2.1) ?_
          refine wp_iload_n dX2_readSum_60 rfl rfl ?_
          refine wp_callV0 (d' := d - 1) cv_RX2_76 T rfl [(0, (-13))] [] rfl rfl (Or.inl ⟨_, _, hT.k0, by decide, rfl, by omega, by omega⟩) (by omega) (Nat.le_of_ble_eq_true rfl) dX2_readSum_61 rfl (Nat.le_of_ble_eq_true rfl) (by omega) (loc1 := [(2, (T : Int)), (0, (-13))]) rfl ?_
          refine sp_writeD hT hn D2 (-13) (fun M3 D3 f3 => ?_)
          have F3 := (F2).tr f3
          refine wp_iinc (loc' := [(2, 23), (0, ((i : Int) + 1)), (0, (-13))]) dX2_readSum_64 rfl (by omega) rfl ?_
          refine wp_goto (tgt := 6) dX2_readSum_67 (by decide) ?_
          have eo : opS (lxT f z x) = -13 := ((if_neg h37).trans (if_pos (by omega)))
          have e : gL f z opS P (m + 1) x ce v = pbd (P (lxN f z x)) (fun y c' v' => gL f z opS P m y (ce ++ c' ++ [opS (lxT f z x)]) (fun e => jn (opS (lxT f z x)) (v e) (v' e))) := if_neg (by rw [eo]; decide)
          rw [e, r2] at k
          exact lpd_Sum hT hn (D3) (fun M9 f9 d9 => k M9 ⟨(F3).tr f9, d9⟩)
        · have J2 : RJ M2 f z T y2 ((c ++ ce) ++ c2) o := q2
          obtain ⟨b2, B2, _⟩ : (lxN f z x) + c2.length ≤ y2 ∧ (y2 : Int) ≤ z ∧ _ := b2
          have C2 : (((c ++ ce) ++ c2)).length + 1 ≤ y2 := by rw [List.length_append]; have := C1; omega
          refine wp_aload_n dX2_readSum_56 rfl rfl ?_
          refine wp_get 23 rfl fl_RX2_33 rfl ⟨by omega, by omega⟩ dX2_readSum_57 rfl (v := (T : Int)) (J2.2.1) ?_
          refine wp_iload_n dX2_readSum_60 rfl rfl ?_
          refine wp_callV0 (d' := d - 1) cv_RX2_76 T rfl [(0, (-13))] [] rfl rfl (Or.inl ⟨_, _, hT.k0, by decide, rfl, by omega, by omega⟩) (by omega) (Nat.le_of_ble_eq_true rfl) dX2_readSum_61 rfl (Nat.le_of_ble_eq_true rfl) (by omega) (loc1 := [(2, (T : Int)), (0, (-13))]) rfl ?_
          refine sp_write hT hn J2 (by have := C2; have := B2; omega) (-13) (fun M4 J4 f4 => ?_)
          have F4 := (F2).tr f4
          have C4 : ((((c ++ ce) ++ c2) ++ [(-13)])).length ≤ y2 := by rw [List.length_append]; have := C2; show _ + 1 ≤ y2; omega
          refine wp_iinc (loc' := [(2, 23), (0, ((i : Int) + 1)), (0, (-13))]) dX2_readSum_64 rfl (by omega) rfl ?_
          refine wp_goto (tgt := 6) dX2_readSum_67 (by decide) ?_
          have eo : opS (lxT f z x) = -13 := ((if_neg h37).trans (if_pos (by omega)))
          have e : gL f z opS P (m + 1) x ce v = pbd (P (lxN f z x)) (fun y c' v' => gL f z opS P m y (ce ++ c' ++ [opS (lxT f z x)]) (fun e => jn (opS (lxT f z x)) (v e) (v' e))) := if_neg (by rw [eo]; decide)
          rw [e, r2] at k
          have Jn : RJ M4 f z T y2 (c ++ (ce ++ c2 ++ [opS (lxT f z x)])) o := by
            rw [eo]
            have := J4
            simpa [List.append_assoc] using this
          have Cn : (c ++ (ce ++ c2 ++ [opS (lxT f z x)])).length ≤ y2 := by
            have := C4
            simp only [List.length_append, List.length_cons, List.length_nil] at this ⊢
            omega
          exact ih (i + 1) y2 _ _ _ _ Q (by omega) Jn B2 Cn (fun M9 q9 => k M9 ⟨(F4).tr q9.1, q9.2⟩)
      · refine wp_bipush dX2_readSum_40 (by decide) (by decide) ?_
        refine wp_goto (tgt := 47) dX2_readSum_42 (by decide) ?_
        refine wp_istore_n (loc' := [(2, 23), (0, (i : Int)), (0, (-12))]) dX2_readSum_47 rfl (Nat.le_of_ble_eq_true rfl) rfl ?_
        refine wp_aload_n dX2_readSum_48 rfl rfl ?_
        refine wp_callV0 (d' := d - 1) cv_RX2_51 23 rfl [] [] rfl rfl (Or.inl ⟨_, _, rfl, by decide, rfl, by omega, by omega⟩) (by omega) (Nat.le_of_ble_eq_true rfl) dX2_readSum_49 rfl (Nat.le_of_ble_eq_true rfl) (by omega) (loc1 := [(2, 23), (9, 0)]) rfl ?_
        refine sp_step hn (hJ).1 (by omega) hB (hJ).2.2.1.2.1 (lxN_le hx).1 (fun M5 f5 l5 => ?_)
        have J5 := (hJ).step hT f5 l5
        have F5 := ((Fr.rf : Fr (VJ T) M0 M0)).tr (f5.mono VR36.j)
        have X5 := lxN_le (f := f) hx
        have Y5 := lxA_le (f := f) hx
        have C5 : ((c ++ ce)).length + 1 ≤ (lxN f z x) := by have := hC; have := X5.2.2 (by omega); omega
        refine wp_aload_n dX2_readSum_52 rfl rfl ?_
        refine wp_callV0 (d' := d - 1) cv_RX2_92 23 rfl [] [] rfl rfl (Or.inl ⟨_, _, rfl, by decide, rfl, by omega, by omega⟩) (by omega) (Nat.le_of_ble_eq_true rfl) dX2_readSum_53 rfl (Nat.le_of_ble_eq_true rfl) (by omega) (loc1 := [(2, 23), (9, 0)]) rfl ?_
        refine hs _ _ _ _ _ (by omega) J5 X5.1 (by have := C5; omega) (fun M6 q6 => ?_)
        obtain ⟨f6, q6⟩ := q6
        have F6 := (F5).tr f6
        have b6 := hq _ X5.1
        generalize r6 : P (lxN f z x) = w6 at q6 b6
        rcases w6 with p6 | ⟨y6, c6, v6⟩
        · have D6 : DJ M6 f z T p6 o := q6
          refine wp_aload_n dX2_readSum_56 rfl rfl ?_
          refine wp_get 23 rfl fl_RX2_33 rfl ⟨by omega, by omega⟩ dX2_readSum_57 rfl (v := (T : Int)) (D6.2.1) ?_
          refine wp_iload_n dX2_readSum_60 rfl rfl ?_
          refine wp_callV0 (d' := d - 1) cv_RX2_76 T rfl [(0, (-12))] [] rfl rfl (Or.inl ⟨_, _, hT.k0, by decide, rfl, by omega, by omega⟩) (by omega) (Nat.le_of_ble_eq_true rfl) dX2_readSum_61 rfl (Nat.le_of_ble_eq_true rfl) (by omega) (loc1 := [(2, (T : Int)), (0, (-12))]) rfl ?_
          refine sp_writeD hT hn D6 (-12) (fun M7 D7 f7 => ?_)
          have F7 := (F6).tr f7
          refine wp_iinc (loc' := [(2, 23), (0, ((i : Int) + 1)), (0, (-12))]) dX2_readSum_64 rfl (by omega) rfl ?_
          refine wp_goto (tgt := 6) dX2_readSum_67 (by decide) ?_
          have eo : opS (lxT f z x) = -12 := (if_pos h37)
          have e : gL f z opS P (m + 1) x ce v = pbd (P (lxN f z x)) (fun y c' v' => gL f z opS P m y (ce ++ c' ++ [opS (lxT f z x)]) (fun e => jn (opS (lxT f z x)) (v e) (v' e))) := if_neg (by rw [eo]; decide)
          rw [e, r6] at k
          exact lpd_Sum hT hn (D7) (fun M9 f9 d9 => k M9 ⟨(F7).tr f9, d9⟩)
        · have J6 : RJ M6 f z T y6 ((c ++ ce) ++ c6) o := q6
          obtain ⟨b6, B6, _⟩ : (lxN f z x) + c6.length ≤ y6 ∧ (y6 : Int) ≤ z ∧ _ := b6
          have C6 : (((c ++ ce) ++ c6)).length + 1 ≤ y6 := by rw [List.length_append]; have := C5; omega
          refine wp_aload_n dX2_readSum_56 rfl rfl ?_
          refine wp_get 23 rfl fl_RX2_33 rfl ⟨by omega, by omega⟩ dX2_readSum_57 rfl (v := (T : Int)) (J6.2.1) ?_
          refine wp_iload_n dX2_readSum_60 rfl rfl ?_
          refine wp_callV0 (d' := d - 1) cv_RX2_76 T rfl [(0, (-12))] [] rfl rfl (Or.inl ⟨_, _, hT.k0, by decide, rfl, by omega, by omega⟩) (by omega) (Nat.le_of_ble_eq_true rfl) dX2_readSum_61 rfl (Nat.le_of_ble_eq_true rfl) (by omega) (loc1 := [(2, (T : Int)), (0, (-12))]) rfl ?_
          refine sp_write hT hn J6 (by have := C6; have := B6; omega) (-12) (fun M8 J8 f8 => ?_)
          have F8 := (F6).tr f8
          have C8 : ((((c ++ ce) ++ c6) ++ [(-12)])).length ≤ y6 := by rw [List.length_append]; have := C6; show _ + 1 ≤ y6; omega
          refine wp_iinc (loc' := [(2, 23), (0, ((i : Int) + 1)), (0, (-12))]) dX2_readSum_64 rfl (by omega) rfl ?_
          refine wp_goto (tgt := 6) dX2_readSum_67 (by decide) ?_
          have eo : opS (lxT f z x) = -12 := (if_pos h37)
          have e : gL f z opS P (m + 1) x ce v = pbd (P (lxN f z x)) (fun y c' v' => gL f z opS P m y (ce ++ c' ++ [opS (lxT f z x)]) (fun e => jn (opS (lxT f z x)) (v e) (v' e))) := if_neg (by rw [eo]; decide)
          rw [e, r6] at k
          have Jn : RJ M8 f z T y6 (c ++ (ce ++ c6 ++ [opS (lxT f z x)])) o := by
            rw [eo]
            have := J8
            simpa [List.append_assoc] using this
          have Cn : (c ++ (ce ++ c6 ++ [opS (lxT f z x)])).length ≤ y6 := by
            have := C8
            simp only [List.length_append, List.length_cons, List.length_nil] at this ⊢
            omega
          exact ih (i + 1) y6 _ _ _ _ Q (by omega) Jn B6 Cn (fun M9 q9 => k M9 ⟨(F8).tr q9.1, q9.2⟩)
    · refine wp_aload_n dX2_readSum_22 rfl rfl ?_
      refine wp_get 23 rfl fl_RX2_67 rfl ⟨by omega, by omega⟩ dX2_readSum_23 rfl (v := (lxT f z x)) (hJ.2.2.1.2.2.1) ?_
      refine wp_bipush dX2_readSum_26 (by decide) (by decide) ?_
      refine wp_icmp_ne (tgt := 70) dX2_readSum_28 (by decide) (fun h28 => ?_) (fun h28 => ?_)
      · refine wp_vret rfl dX2_readSum_70 ?_
        have e : gL f z opS P (m + 1) x ce v = .inr (x, ce, v) := if_pos (show opS (lxT f z x) = 0 from (if_neg h19).trans (if_neg h28))
        rw [e] at k
        exact k _ ⟨Fr.rf, hJ⟩
      · refine wp_aload_n dX2_readSum_31 rfl rfl ?_
        refine wp_get 23 rfl fl_RX2_67 rfl ⟨by omega, by omega⟩ dX2_readSum_32 rfl (v := (lxT f z x)) (hJ.2.2.1.2.2.1) ?_
        refine wp_bipush dX2_readSum_35 (by decide) (by decide) ?_
        refine wp_icmp_ne (tgt := 45) dX2_readSum_37 (by decide) (fun h37 => ?_) (fun h37 => ?_)
        · refine wp_bipush dX2_readSum_45 (by decide) (by decide) ?_
          refine wp_istore_n (loc' := [(2, 23), (0, (i : Int)), (0, (-13))]) dX2_readSum_47 rfl (Nat.le_of_ble_eq_true rfl) rfl ?_
          refine wp_aload_n dX2_readSum_48 rfl rfl ?_
          refine wp_callV0 (d' := d - 1) cv_RX2_51 23 rfl [] [] rfl rfl (Or.inl ⟨_, _, rfl, by decide, rfl, by omega, by omega⟩) (by omega) (Nat.le_of_ble_eq_true rfl) dX2_readSum_49 rfl (Nat.le_of_ble_eq_true rfl) (by omega) (loc1 := [(2, 23), (9, 0)]) rfl ?_
          refine sp_step hn (hJ).1 (by omega) hB (hJ).2.2.1.2.1 (lxN_le hx).1 (fun M9 f9 l9 => ?_)
          have J9 := (hJ).step hT f9 l9
          have F9 := ((Fr.rf : Fr (VJ T) M0 M0)).tr (f9.mono VR36.j)
          have X9 := lxN_le (f := f) hx
          have Y9 := lxA_le (f := f) hx
          have C9 : ((c ++ ce)).length + 1 ≤ (lxN f z x) := by have := hC; have := X9.2.2 (by omega); omega
          refine wp_aload_n dX2_readSum_52 rfl rfl ?_
          refine wp_callV0 (d' := d - 1) cv_RX2_92 23 rfl [] [] rfl rfl (Or.inl ⟨_, _, rfl, by decide, rfl, by omega, by omega⟩) (by omega) (Nat.le_of_ble_eq_true rfl) dX2_readSum_53 rfl (Nat.le_of_ble_eq_true rfl) (by omega) (loc1 := [(2, 23), (9, 0)]) rfl ?_
          refine hs _ _ _ _ _ (by omega) J9 X9.1 (by have := C9; omega) (fun M10 q10 => ?_)
          obtain ⟨f10, q10⟩ := q10
          have F10 := (F9).tr f10
          have b10 := hq _ X9.1
          generalize r10 : P (lxN f z x) = w10 at q10 b10
          rcases w10 with p10 | ⟨y10, c10, v10⟩
          · have D10 : DJ M10 f z T p10 o := q10
            refine wp_aload_n dX2_readSum_56 rfl rfl ?_
            refine wp_get 23 rfl fl_RX2_33 rfl ⟨by omega, by omega⟩ dX2_readSum_57 rfl (v := (T : Int)) (D10.2.1) ?_
            refine wp_iload_n dX2_readSum_60 rfl rfl ?_
            refine wp_callV0 (d' := d - 1) cv_RX2_76 T rfl [(0, (-13))] [] rfl rfl (Or.inl ⟨_, _, hT.k0, by decide, rfl, by omega, by omega⟩) (by omega) (Nat.le_of_ble_eq_true rfl) dX2_readSum_61 rfl (Nat.le_of_ble_eq_true rfl) (by omega) (loc1 := [(2, (T : Int)), (0, (-13))]) rfl ?_
            refine sp_writeD hT hn D10 (-13) (fun M11 D11 f11 => ?_)
            have F11 := (F10).tr f11
            refine wp_iinc (loc' := [(2, 23), (0, ((i : Int) + 1)), (0, (-13))]) dX2_readSum_64 rfl (by omega) rfl ?_
            refine wp_goto (tgt := 6) dX2_readSum_67 (by decide) ?_
            have eo : opS (lxT f z x) = -13 := ((if_neg h37).trans (if_pos (by omega)))
            have e : gL f z opS P (m + 1) x ce v = pbd (P (lxN f z x)) (fun y c' v' => gL f z opS P m y (ce ++ c' ++ [opS (lxT f z x)]) (fun e => jn (opS (lxT f z x)) (v e) (v' e))) := if_neg (by rw [eo]; decide)
            rw [e, r10] at k
            exact lpd_Sum hT hn (D11) (fun M9 f9 d9 => k M9 ⟨(F11).tr f9, d9⟩)
          · have J10 : RJ M10 f z T y10 ((c ++ ce) ++ c10) o := q10
            obtain ⟨b10, B10, _⟩ : (lxN f z x) + c10.length ≤ y10 ∧ (y10 : Int) ≤ z ∧ _ := b10
            have C10 : (((c ++ ce) ++ c10)).length + 1 ≤ y10 := by rw [List.length_append]; have := C9; omega
            refine wp_aload_n dX2_readSum_56 rfl rfl ?_
            refine wp_get 23 rfl fl_RX2_33 rfl ⟨by omega, by omega⟩ dX2_readSum_57 rfl (v := (T : Int)) (J10.2.1) ?_
            refine wp_iload_n dX2_readSum_60 rfl rfl ?_
            refine wp_callV0 (d' := d - 1) cv_RX2_76 T rfl [(0, (-13))] [] rfl rfl (Or.inl ⟨_, _, hT.k0, by decide, rfl, by omega, by omega⟩) (by omega) (Nat.le_of_ble_eq_true rfl) dX2_readSum_61 rfl (Nat.le_of_ble_eq_true rfl) (by omega) (loc1 := [(2, (T : Int)), (0, (-13))]) rfl ?_
            refine sp_write hT hn J10 (by have := C10; have := B10; omega) (-13) (fun M12 J12 f12 => ?_)
            have F12 := (F10).tr f12
            have C12 : ((((c ++ ce) ++ c10) ++ [(-13)])).length ≤ y10 := by rw [List.length_append]; have := C10; show _ + 1 ≤ y10; omega
            refine wp_iinc (loc' := [(2, 23), (0, ((i : Int) + 1)), (0, (-13))]) dX2_readSum_64 rfl (by omega) rfl ?_
            refine wp_goto (tgt := 6) dX2_readSum_67 (by decide) ?_
            have eo : opS (lxT f z x) = -13 := ((if_neg h37).trans (if_pos (by omega)))
            have e : gL f z opS P (m + 1) x ce v = pbd (P (lxN f z x)) (fun y c' v' => gL f z opS P m y (ce ++ c' ++ [opS (lxT f z x)]) (fun e => jn (opS (lxT f z x)) (v e) (v' e))) := if_neg (by rw [eo]; decide)
            rw [e, r10] at k
            have Jn : RJ M12 f z T y10 (c ++ (ce ++ c10 ++ [opS (lxT f z x)])) o := by
              rw [eo]
              have := J12
              simpa [List.append_assoc] using this
            have Cn : (c ++ (ce ++ c10 ++ [opS (lxT f z x)])).length ≤ y10 := by
              have := C12
              simp only [List.length_append, List.length_cons, List.length_nil] at this ⊢
              omega
            exact ih (i + 1) y10 _ _ _ _ Q (by omega) Jn B10 Cn (fun M9 q9 => k M9 ⟨(F12).tr q9.1, q9.2⟩)
        · refine wp_bipush dX2_readSum_40 (by decide) (by decide) ?_
          refine wp_goto (tgt := 47) dX2_readSum_42 (by decide) ?_
          refine wp_istore_n (loc' := [(2, 23), (0, (i : Int)), (0, (-12))]) dX2_readSum_47 rfl (Nat.le_of_ble_eq_true rfl) rfl ?_
          refine wp_aload_n dX2_readSum_48 rfl rfl ?_
          refine wp_callV0 (d' := d - 1) cv_RX2_51 23 rfl [] [] rfl rfl (Or.inl ⟨_, _, rfl, by decide, rfl, by omega, by omega⟩) (by omega) (Nat.le_of_ble_eq_true rfl) dX2_readSum_49 rfl (Nat.le_of_ble_eq_true rfl) (by omega) (loc1 := [(2, 23), (9, 0)]) rfl ?_
          refine sp_step hn (hJ).1 (by omega) hB (hJ).2.2.1.2.1 (lxN_le hx).1 (fun M13 f13 l13 => ?_)
          have J13 := (hJ).step hT f13 l13
          have F13 := ((Fr.rf : Fr (VJ T) M0 M0)).tr (f13.mono VR36.j)
          have X13 := lxN_le (f := f) hx
          have Y13 := lxA_le (f := f) hx
          have C13 : ((c ++ ce)).length + 1 ≤ (lxN f z x) := by have := hC; have := X13.2.2 (by omega); omega
          refine wp_aload_n dX2_readSum_52 rfl rfl ?_
          refine wp_callV0 (d' := d - 1) cv_RX2_92 23 rfl [] [] rfl rfl (Or.inl ⟨_, _, rfl, by decide, rfl, by omega, by omega⟩) (by omega) (Nat.le_of_ble_eq_true rfl) dX2_readSum_53 rfl (Nat.le_of_ble_eq_true rfl) (by omega) (loc1 := [(2, 23), (9, 0)]) rfl ?_
          refine hs _ _ _ _ _ (by omega) J13 X13.1 (by have := C13; omega) (fun M14 q14 => ?_)
          obtain ⟨f14, q14⟩ := q14
          have F14 := (F13).tr f14
          have b14 := hq _ X13.1
          generalize r14 : P (lxN f z x) = w14 at q14 b14
          rcases w14 with p14 | ⟨y14, c14, v14⟩
          · have D14 : DJ M14 f z T p14 o := q14
            refine wp_aload_n dX2_readSum_56 rfl rfl ?_
            refine wp_get 23 rfl fl_RX2_33 rfl ⟨by omega, by omega⟩ dX2_readSum_57 rfl (v := (T : Int)) (D14.2.1) ?_
            refine wp_iload_n dX2_readSum_60 rfl rfl ?_
            refine wp_callV0 (d' := d - 1) cv_RX2_76 T rfl [(0, (-12))] [] rfl rfl (Or.inl ⟨_, _, hT.k0, by decide, rfl, by omega, by omega⟩) (by omega) (Nat.le_of_ble_eq_true rfl) dX2_readSum_61 rfl (Nat.le_of_ble_eq_true rfl) (by omega) (loc1 := [(2, (T : Int)), (0, (-12))]) rfl ?_
            refine sp_writeD hT hn D14 (-12) (fun M15 D15 f15 => ?_)
            have F15 := (F14).tr f15
            refine wp_iinc (loc' := [(2, 23), (0, ((i : Int) + 1)), (0, (-12))]) dX2_readSum_64 rfl (by omega) rfl ?_
            refine wp_goto (tgt := 6) dX2_readSum_67 (by decide) ?_
            have eo : opS (lxT f z x) = -12 := (if_pos h37)
            have e : gL f z opS P (m + 1) x ce v = pbd (P (lxN f z x)) (fun y c' v' => gL f z opS P m y (ce ++ c' ++ [opS (lxT f z x)]) (fun e => jn (opS (lxT f z x)) (v e) (v' e))) := if_neg (by rw [eo]; decide)
            rw [e, r14] at k
            exact lpd_Sum hT hn (D15) (fun M9 f9 d9 => k M9 ⟨(F15).tr f9, d9⟩)
          · have J14 : RJ M14 f z T y14 ((c ++ ce) ++ c14) o := q14
            obtain ⟨b14, B14, _⟩ : (lxN f z x) + c14.length ≤ y14 ∧ (y14 : Int) ≤ z ∧ _ := b14
            have C14 : (((c ++ ce) ++ c14)).length + 1 ≤ y14 := by rw [List.length_append]; have := C13; omega
            refine wp_aload_n dX2_readSum_56 rfl rfl ?_
            refine wp_get 23 rfl fl_RX2_33 rfl ⟨by omega, by omega⟩ dX2_readSum_57 rfl (v := (T : Int)) (J14.2.1) ?_
            refine wp_iload_n dX2_readSum_60 rfl rfl ?_
            refine wp_callV0 (d' := d - 1) cv_RX2_76 T rfl [(0, (-12))] [] rfl rfl (Or.inl ⟨_, _, hT.k0, by decide, rfl, by omega, by omega⟩) (by omega) (Nat.le_of_ble_eq_true rfl) dX2_readSum_61 rfl (Nat.le_of_ble_eq_true rfl) (by omega) (loc1 := [(2, (T : Int)), (0, (-12))]) rfl ?_
            refine sp_write hT hn J14 (by have := C14; have := B14; omega) (-12) (fun M16 J16 f16 => ?_)
            have F16 := (F14).tr f16
            have C16 : ((((c ++ ce) ++ c14) ++ [(-12)])).length ≤ y14 := by rw [List.length_append]; have := C14; show _ + 1 ≤ y14; omega
            refine wp_iinc (loc' := [(2, 23), (0, ((i : Int) + 1)), (0, (-12))]) dX2_readSum_64 rfl (by omega) rfl ?_
            refine wp_goto (tgt := 6) dX2_readSum_67 (by decide) ?_
            have eo : opS (lxT f z x) = -12 := (if_pos h37)
            have e : gL f z opS P (m + 1) x ce v = pbd (P (lxN f z x)) (fun y c' v' => gL f z opS P m y (ce ++ c' ++ [opS (lxT f z x)]) (fun e => jn (opS (lxT f z x)) (v e) (v' e))) := if_neg (by rw [eo]; decide)
            rw [e, r14] at k
            have Jn : RJ M16 f z T y14 (c ++ (ce ++ c14 ++ [opS (lxT f z x)])) o := by
              rw [eo]
              have := J16
              simpa [List.append_assoc] using this
            have Cn : (c ++ (ce ++ c14 ++ [opS (lxT f z x)])).length ≤ y14 := by
              have := C16
              simp only [List.length_append, List.length_cons, List.length_nil] at this ⊢
              omega
            exact ih (i + 1) y14 _ _ _ _ Q (by omega) Jn B14 Cn (fun M9 q9 => k M9 ⟨(F16).tr q9.1, q9.2⟩)
set_option maxRecDepth 20000 in
set_option maxHeartbeats 4000000 in
theorem ct_Sum {l : Launch} {g : Gw} {n : Nat} {T : Nat} (hT : isT T) (hn : 60 ≤ n) {f : Nat → Int} {z : Int} {B : Nat} (hB12 : 12 ≤ B) (hB : BT f z) {o : Int} {P : Nat → PR} (hs : CMr l g n f z T m_X2_readTerm [(9, 0)] B o P) (hsd : CMd l g n f z T m_X2_readTerm [(9, 0)] B) (hq : ∀ x : Nat, (x : Int) ≤ z → PQ z x (P x)) : CMr l g n f z T m_X2_readSum [(9, 0), (9, 0)] (B + 1) o (gBn f z opS 160 P) := by
  intro d M0 Q x c hd hJ hx hC k
  have hb := hT.b
  have hz1 := hJ.1.2.2.2.2
  refine wp_aload_n dX2_readSum_0 rfl rfl ?_
  refine wp_callV0 (d' := d - 1) cv_RX2_92 23 rfl [] [] rfl rfl (Or.inl ⟨_, _, rfl, by decide, rfl, by omega, by omega⟩) (by omega) (Nat.le_of_ble_eq_true rfl) dX2_readSum_1 rfl (Nat.le_of_ble_eq_true rfl) (by omega) (loc1 := [(2, 23), (9, 0)]) rfl ?_
  refine hs _ _ _ _ _ (by omega) hJ hx (by have := hC; omega) (fun M1 q1 => ?_)
  obtain ⟨f1, q1⟩ := q1
  have F1 := ((Fr.rf : Fr (VJ T) M0 M0)).tr f1
  have b1 := hq _ hx
  generalize r1 : P x = w1 at q1 b1
  rcases w1 with p1 | ⟨y1, c1, v1⟩
  · have D1 : DJ M1 f z T p1 o := q1
    refine wp_iconst dX2_readSum_4 (by decide) ?_
    refine wp_istore_n (loc' := [(2, 23), (0, 0), (9, 0)]) dX2_readSum_5 rfl (Nat.le_of_ble_eq_true rfl) rfl ?_
    have e : gBn f z opS 160 P x = pbd (P x) (fun y c v => gL f z opS P 160 y c v) := rfl
    rw [e, r1] at k
    exact lpd_Sum hT hn (D1) (fun M9 f9 d9 => k M9 ⟨(F1).tr f9, d9⟩)
  · have J1 : RJ M1 f z T y1 (c ++ c1) o := q1
    obtain ⟨b1, B1, _⟩ : x + c1.length ≤ y1 ∧ (y1 : Int) ≤ z ∧ _ := b1
    have C1 : ((c ++ c1)).length ≤ y1 := by rw [List.length_append]; have := hC; omega
    refine wp_iconst dX2_readSum_4 (by decide) ?_
    refine wp_istore_n (loc' := [(2, 23), (0, 0), (9, 0)]) dX2_readSum_5 rfl (Nat.le_of_ble_eq_true rfl) rfl ?_
    have e : gBn f z opS 160 P x = pbd (P x) (fun y c v => gL f z opS P 160 y c v) := rfl
    rw [e, r1] at k
    exact lp_Sum hT hn hB12 hB hs hsd hq hd 160 0 y1 c1 v1 _ _ Q (by omega) (J1) B1 (by have := C1; omega) (fun M9 q9 => k M9 ⟨(F1).tr q9.1, q9.2⟩)
set_option maxRecDepth 20000 in
set_option maxHeartbeats 4000000 in
theorem lp_And {l : Launch} {g : Gw} {n : Nat} {T : Nat} (hT : isT T) (hn : 60 ≤ n) {f : Nat → Int} {z : Int} {B : Nat} (hB12 : 12 ≤ B) (hB : BT f z) {o : Int} {P : Nat → PR} (hs : CMr l g n f z T m_X2_readNot [] B o P) (hsd : CMd l g n f z T m_X2_readNot [] B) (hq : ∀ x : Nat, (x : Int) ≤ z → PQ z x (P x)) {d : Nat} (hd : B + 1 ≤ d) {c : List Int} : ∀ (m i x : Nat) (ce : List Int) (v : Vl) (M0 : Mm) (Q : Option Wd → Mm → Prop), i + m = 160 → RJ M0 f z T x (c ++ ce) o → (x : Int) ≤ z → (c ++ ce).length ≤ x → (∀ M', PoJ M0 f z T o c (gL f z opA P m x ce v) M' → Q none M') → Wp l g d 0 0 n m_X2_readAnd 6 [] [(2, 23), (0, (i : Int))] M0 Q := by
  have hb := hT.b
  intro m
  induction m with
  | zero =>
    intro i x ce v M0 Q hi hJ hx hC k
    have hz1 := hJ.1.2.2.2.2
    refine wp_iload_n dX2_readAnd_6 rfl rfl ?_
    refine wp_sipush dX2_readAnd_7 (by decide) (by decide) ?_
    refine wp_icmp_ge (tgt := 46) dX2_readAnd_10 (by decide) (fun _ => ?_) (fun h => absurd h (by omega))
    refine wp_vret rfl dX2_readAnd_46 ?_
    exact k _ ⟨Fr.rf, hJ⟩
  | succ m ih =>
    intro i x ce v M0 Q hi hJ hx hC k
    have hz1 := hJ.1.2.2.2.2
    refine wp_iload_n dX2_readAnd_6 rfl rfl ?_
    refine wp_sipush dX2_readAnd_7 (by decide) (by decide) ?_
    refine wp_icmp_ge (tgt := 46) dX2_readAnd_10 (by decide) (fun h => absurd h (by omega)) (fun _ => ?_)
    refine wp_aload_n dX2_readAnd_13 rfl rfl ?_
    refine wp_get 23 rfl fl_RX2_67 rfl ⟨by omega, by omega⟩ dX2_readAnd_14 rfl (v := (lxT f z x)) (hJ.2.2.1.2.2.1) ?_
    refine wp_sipush dX2_readAnd_17 (by decide) (by decide) ?_
    refine wp_icmp_ne (tgt := 46) dX2_readAnd_20 (by decide) (fun h20 => ?_) (fun h20 => ?_)
    · refine wp_vret rfl dX2_readAnd_46 ?_
      have e : gL f z opA P (m + 1) x ce v = .inr (x, ce, v) := if_pos (show opA (lxT f z x) = 0 from if_neg h20)
      rw [e] at k
      exact k _ ⟨Fr.rf, hJ⟩
    · refine wp_aload_n dX2_readAnd_23 rfl rfl ?_
      refine wp_callV0 (d' := d - 1) cv_RX2_51 23 rfl [] [] rfl rfl (Or.inl ⟨_, _, rfl, by decide, rfl, by omega, by omega⟩) (by omega) (Nat.le_of_ble_eq_true rfl) dX2_readAnd_24 rfl (Nat.le_of_ble_eq_true rfl) (by omega) (loc1 := [(2, 23), (9, 0)]) rfl ?_
      refine sp_step hn (hJ).1 (by omega) hB (hJ).2.2.1.2.1 (lxN_le hx).1 (fun M1 f1 l1 => ?_)
      have J1 := (hJ).step hT f1 l1
      have F1 := ((Fr.rf : Fr (VJ T) M0 M0)).tr (f1.mono VR36.j)
      have X1 := lxN_le (f := f) hx
      have Y1 := lxA_le (f := f) hx
      have C1 : ((c ++ ce)).length + 1 ≤ (lxN f z x) := by have := hC; have := X1.2.2 (by omega); omega
      refine wp_aload_n dX2_readAnd_27 rfl rfl ?_
      refine wp_callV0 (d' := d - 1) cv_RX2_79 23 rfl [] [] rfl rfl (Or.inl ⟨_, _, rfl, by decide, rfl, by omega, by omega⟩) (by omega) (Nat.le_of_ble_eq_true rfl) dX2_readAnd_28 rfl (Nat.le_of_ble_eq_true rfl) (by omega) (loc1 := [(2, 23)]) rfl ?_
      refine hs _ _ _ _ _ (by omega) J1 X1.1 (by have := C1; omega) (fun M2 q2 => ?_)
      obtain ⟨f2, q2⟩ := q2
      have F2 := (F1).tr f2
      have b2 := hq _ X1.1
      generalize r2 : P (lxN f z x) = w2 at q2 b2
      rcases w2 with p2 | ⟨y2, c2, v2⟩
      · have D2 : DJ M2 f z T p2 o := q2
        refine wp_aload_n dX2_readAnd_31 rfl rfl ?_
        refine wp_get 23 rfl fl_RX2_33 rfl ⟨by omega, by omega⟩ dX2_readAnd_32 rfl (v := (T : Int)) (D2.2.1) ?_
        refine wp_bipush dX2_readAnd_35 (by decide) (by decide) ?_
        refine wp_callV0 (d' := d - 1) cv_RX2_76 T rfl [(0, (-8))] [] rfl rfl (Or.inl ⟨_, _, hT.k0, by decide, rfl, by omega, by omega⟩) (by omega) (Nat.le_of_ble_eq_true rfl) dX2_readAnd_37 rfl (Nat.le_of_ble_eq_true rfl) (by omega) (loc1 := [(2, (T : Int)), (0, (-8))]) rfl ?_
        refine sp_writeD hT hn D2 (-8) (fun M3 D3 f3 => ?_)
        have F3 := (F2).tr f3
        refine wp_iinc (loc' := [(2, 23), (0, ((i : Int) + 1))]) dX2_readAnd_40 rfl (by omega) rfl ?_
        refine wp_goto (tgt := 6) dX2_readAnd_43 (by decide) ?_
        have eo : opA (lxT f z x) = -8 := (if_pos h20)
        have e : gL f z opA P (m + 1) x ce v = pbd (P (lxN f z x)) (fun y c' v' => gL f z opA P m y (ce ++ c' ++ [opA (lxT f z x)]) (fun e => jn (opA (lxT f z x)) (v e) (v' e))) := if_neg (by rw [eo]; decide)
        rw [e, r2] at k
        exact lpd_And hT hn (D3) (fun M9 f9 d9 => k M9 ⟨(F3).tr f9, d9⟩)
      · have J2 : RJ M2 f z T y2 ((c ++ ce) ++ c2) o := q2
        obtain ⟨b2, B2, _⟩ : (lxN f z x) + c2.length ≤ y2 ∧ (y2 : Int) ≤ z ∧ _ := b2
        have C2 : (((c ++ ce) ++ c2)).length + 1 ≤ y2 := by rw [List.length_append]; have := C1; omega
        refine wp_aload_n dX2_readAnd_31 rfl rfl ?_
        refine wp_get 23 rfl fl_RX2_33 rfl ⟨by omega, by omega⟩ dX2_readAnd_32 rfl (v := (T : Int)) (J2.2.1) ?_
        refine wp_bipush dX2_readAnd_35 (by decide) (by decide) ?_
        refine wp_callV0 (d' := d - 1) cv_RX2_76 T rfl [(0, (-8))] [] rfl rfl (Or.inl ⟨_, _, hT.k0, by decide, rfl, by omega, by omega⟩) (by omega) (Nat.le_of_ble_eq_true rfl) dX2_readAnd_37 rfl (Nat.le_of_ble_eq_true rfl) (by omega) (loc1 := [(2, (T : Int)), (0, (-8))]) rfl ?_
        refine sp_write hT hn J2 (by have := C2; have := B2; omega) (-8) (fun M4 J4 f4 => ?_)
        have F4 := (F2).tr f4
        have C4 : ((((c ++ ce) ++ c2) ++ [(-8)])).length ≤ y2 := by rw [List.length_append]; have := C2; show _ + 1 ≤ y2; omega
        refine wp_iinc (loc' := [(2, 23), (0, ((i : Int) + 1))]) dX2_readAnd_40 rfl (by omega) rfl ?_
        refine wp_goto (tgt := 6) dX2_readAnd_43 (by decide) ?_
        have eo : opA (lxT f z x) = -8 := (if_pos h20)
        have e : gL f z opA P (m + 1) x ce v = pbd (P (lxN f z x)) (fun y c' v' => gL f z opA P m y (ce ++ c' ++ [opA (lxT f z x)]) (fun e => jn (opA (lxT f z x)) (v e) (v' e))) := if_neg (by rw [eo]; decide)
        rw [e, r2] at k
        have Jn : RJ M4 f z T y2 (c ++ (ce ++ c2 ++ [opA (lxT f z x)])) o := by
          rw [eo]
          have := J4
          simpa [List.append_assoc] using this
        have Cn : (c ++ (ce ++ c2 ++ [opA (lxT f z x)])).length ≤ y2 := by
          have := C4
          simp only [List.length_append, List.length_cons, List.length_nil] at this ⊢
          omega
        exact ih (i + 1) y2 _ _ _ Q (by omega) Jn B2 Cn (fun M9 q9 => k M9 ⟨(F4).tr q9.1, q9.2⟩)
set_option maxRecDepth 20000 in
set_option maxHeartbeats 4000000 in
theorem ct_And {l : Launch} {g : Gw} {n : Nat} {T : Nat} (hT : isT T) (hn : 60 ≤ n) {f : Nat → Int} {z : Int} {B : Nat} (hB12 : 12 ≤ B) (hB : BT f z) {o : Int} {P : Nat → PR} (hs : CMr l g n f z T m_X2_readNot [] B o P) (hsd : CMd l g n f z T m_X2_readNot [] B) (hq : ∀ x : Nat, (x : Int) ≤ z → PQ z x (P x)) : CMr l g n f z T m_X2_readAnd [(9, 0)] (B + 1) o (gBn f z opA 160 P) := by
  intro d M0 Q x c hd hJ hx hC k
  have hb := hT.b
  have hz1 := hJ.1.2.2.2.2
  refine wp_aload_n dX2_readAnd_0 rfl rfl ?_
  refine wp_callV0 (d' := d - 1) cv_RX2_79 23 rfl [] [] rfl rfl (Or.inl ⟨_, _, rfl, by decide, rfl, by omega, by omega⟩) (by omega) (Nat.le_of_ble_eq_true rfl) dX2_readAnd_1 rfl (Nat.le_of_ble_eq_true rfl) (by omega) (loc1 := [(2, 23)]) rfl ?_
  refine hs _ _ _ _ _ (by omega) hJ hx (by have := hC; omega) (fun M1 q1 => ?_)
  obtain ⟨f1, q1⟩ := q1
  have F1 := ((Fr.rf : Fr (VJ T) M0 M0)).tr f1
  have b1 := hq _ hx
  generalize r1 : P x = w1 at q1 b1
  rcases w1 with p1 | ⟨y1, c1, v1⟩
  · have D1 : DJ M1 f z T p1 o := q1
    refine wp_iconst dX2_readAnd_4 (by decide) ?_
    refine wp_istore_n (loc' := [(2, 23), (0, 0)]) dX2_readAnd_5 rfl (Nat.le_of_ble_eq_true rfl) rfl ?_
    have e : gBn f z opA 160 P x = pbd (P x) (fun y c v => gL f z opA P 160 y c v) := rfl
    rw [e, r1] at k
    exact lpd_And hT hn (D1) (fun M9 f9 d9 => k M9 ⟨(F1).tr f9, d9⟩)
  · have J1 : RJ M1 f z T y1 (c ++ c1) o := q1
    obtain ⟨b1, B1, _⟩ : x + c1.length ≤ y1 ∧ (y1 : Int) ≤ z ∧ _ := b1
    have C1 : ((c ++ c1)).length ≤ y1 := by rw [List.length_append]; have := hC; omega
    refine wp_iconst dX2_readAnd_4 (by decide) ?_
    refine wp_istore_n (loc' := [(2, 23), (0, 0)]) dX2_readAnd_5 rfl (Nat.le_of_ble_eq_true rfl) rfl ?_
    have e : gBn f z opA 160 P x = pbd (P x) (fun y c v => gL f z opA P 160 y c v) := rfl
    rw [e, r1] at k
    exact lp_And hT hn hB12 hB hs hsd hq hd 160 0 y1 c1 v1 _ Q (by omega) (J1) B1 (by have := C1; omega) (fun M9 q9 => k M9 ⟨(F1).tr q9.1, q9.2⟩)
set_option maxRecDepth 20000 in
set_option maxHeartbeats 4000000 in
theorem lp_Or {l : Launch} {g : Gw} {n : Nat} {T : Nat} (hT : isT T) (hn : 60 ≤ n) {f : Nat → Int} {z : Int} {B : Nat} (hB12 : 12 ≤ B) (hB : BT f z) {o : Int} {P : Nat → PR} (hs : CMr l g n f z T m_X2_readAnd [(9, 0)] B o P) (hsd : CMd l g n f z T m_X2_readAnd [(9, 0)] B) (hq : ∀ x : Nat, (x : Int) ≤ z → PQ z x (P x)) {d : Nat} (hd : B + 1 ≤ d) {c : List Int} : ∀ (m i x : Nat) (ce : List Int) (v : Vl) (M0 : Mm) (Q : Option Wd → Mm → Prop), i + m = 160 → RJ M0 f z T x (c ++ ce) o → (x : Int) ≤ z → (c ++ ce).length ≤ x → (∀ M', PoJ M0 f z T o c (gL f z opO P m x ce v) M' → Q none M') → Wp l g d 0 0 n m_X2_readOr 6 [] [(2, 23), (0, (i : Int))] M0 Q := by
  have hb := hT.b
  intro m
  induction m with
  | zero =>
    intro i x ce v M0 Q hi hJ hx hC k
    have hz1 := hJ.1.2.2.2.2
    refine wp_iload_n dX2_readOr_6 rfl rfl ?_
    refine wp_sipush dX2_readOr_7 (by decide) (by decide) ?_
    refine wp_icmp_ge (tgt := 46) dX2_readOr_10 (by decide) (fun _ => ?_) (fun h => absurd h (by omega))
    refine wp_vret rfl dX2_readOr_46 ?_
    exact k _ ⟨Fr.rf, hJ⟩
  | succ m ih =>
    intro i x ce v M0 Q hi hJ hx hC k
    have hz1 := hJ.1.2.2.2.2
    refine wp_iload_n dX2_readOr_6 rfl rfl ?_
    refine wp_sipush dX2_readOr_7 (by decide) (by decide) ?_
    refine wp_icmp_ge (tgt := 46) dX2_readOr_10 (by decide) (fun h => absurd h (by omega)) (fun _ => ?_)
    refine wp_aload_n dX2_readOr_13 rfl rfl ?_
    refine wp_get 23 rfl fl_RX2_67 rfl ⟨by omega, by omega⟩ dX2_readOr_14 rfl (v := (lxT f z x)) (hJ.2.2.1.2.2.1) ?_
    refine wp_sipush dX2_readOr_17 (by decide) (by decide) ?_
    refine wp_icmp_ne (tgt := 46) dX2_readOr_20 (by decide) (fun h20 => ?_) (fun h20 => ?_)
    · refine wp_vret rfl dX2_readOr_46 ?_
      have e : gL f z opO P (m + 1) x ce v = .inr (x, ce, v) := if_pos (show opO (lxT f z x) = 0 from if_neg h20)
      rw [e] at k
      exact k _ ⟨Fr.rf, hJ⟩
    · refine wp_aload_n dX2_readOr_23 rfl rfl ?_
      refine wp_callV0 (d' := d - 1) cv_RX2_51 23 rfl [] [] rfl rfl (Or.inl ⟨_, _, rfl, by decide, rfl, by omega, by omega⟩) (by omega) (Nat.le_of_ble_eq_true rfl) dX2_readOr_24 rfl (Nat.le_of_ble_eq_true rfl) (by omega) (loc1 := [(2, 23), (9, 0)]) rfl ?_
      refine sp_step hn (hJ).1 (by omega) hB (hJ).2.2.1.2.1 (lxN_le hx).1 (fun M1 f1 l1 => ?_)
      have J1 := (hJ).step hT f1 l1
      have F1 := ((Fr.rf : Fr (VJ T) M0 M0)).tr (f1.mono VR36.j)
      have X1 := lxN_le (f := f) hx
      have Y1 := lxA_le (f := f) hx
      have C1 : ((c ++ ce)).length + 1 ≤ (lxN f z x) := by have := hC; have := X1.2.2 (by omega); omega
      refine wp_aload_n dX2_readOr_27 rfl rfl ?_
      refine wp_callV0 (d' := d - 1) cv_RX2_73 23 rfl [] [] rfl rfl (Or.inl ⟨_, _, rfl, by decide, rfl, by omega, by omega⟩) (by omega) (Nat.le_of_ble_eq_true rfl) dX2_readOr_28 rfl (Nat.le_of_ble_eq_true rfl) (by omega) (loc1 := [(2, 23), (9, 0)]) rfl ?_
      refine hs _ _ _ _ _ (by omega) J1 X1.1 (by have := C1; omega) (fun M2 q2 => ?_)
      obtain ⟨f2, q2⟩ := q2
      have F2 := (F1).tr f2
      have b2 := hq _ X1.1
      generalize r2 : P (lxN f z x) = w2 at q2 b2
      rcases w2 with p2 | ⟨y2, c2, v2⟩
      · have D2 : DJ M2 f z T p2 o := q2
        refine wp_aload_n dX2_readOr_31 rfl rfl ?_
        refine wp_get 23 rfl fl_RX2_33 rfl ⟨by omega, by omega⟩ dX2_readOr_32 rfl (v := (T : Int)) (D2.2.1) ?_
        refine wp_bipush dX2_readOr_35 (by decide) (by decide) ?_
        refine wp_callV0 (d' := d - 1) cv_RX2_76 T rfl [(0, (-7))] [] rfl rfl (Or.inl ⟨_, _, hT.k0, by decide, rfl, by omega, by omega⟩) (by omega) (Nat.le_of_ble_eq_true rfl) dX2_readOr_37 rfl (Nat.le_of_ble_eq_true rfl) (by omega) (loc1 := [(2, (T : Int)), (0, (-7))]) rfl ?_
        refine sp_writeD hT hn D2 (-7) (fun M3 D3 f3 => ?_)
        have F3 := (F2).tr f3
        refine wp_iinc (loc' := [(2, 23), (0, ((i : Int) + 1))]) dX2_readOr_40 rfl (by omega) rfl ?_
        refine wp_goto (tgt := 6) dX2_readOr_43 (by decide) ?_
        have eo : opO (lxT f z x) = -7 := (if_pos h20)
        have e : gL f z opO P (m + 1) x ce v = pbd (P (lxN f z x)) (fun y c' v' => gL f z opO P m y (ce ++ c' ++ [opO (lxT f z x)]) (fun e => jn (opO (lxT f z x)) (v e) (v' e))) := if_neg (by rw [eo]; decide)
        rw [e, r2] at k
        exact lpd_Or hT hn (D3) (fun M9 f9 d9 => k M9 ⟨(F3).tr f9, d9⟩)
      · have J2 : RJ M2 f z T y2 ((c ++ ce) ++ c2) o := q2
        obtain ⟨b2, B2, _⟩ : (lxN f z x) + c2.length ≤ y2 ∧ (y2 : Int) ≤ z ∧ _ := b2
        have C2 : (((c ++ ce) ++ c2)).length + 1 ≤ y2 := by rw [List.length_append]; have := C1; omega
        refine wp_aload_n dX2_readOr_31 rfl rfl ?_
        refine wp_get 23 rfl fl_RX2_33 rfl ⟨by omega, by omega⟩ dX2_readOr_32 rfl (v := (T : Int)) (J2.2.1) ?_
        refine wp_bipush dX2_readOr_35 (by decide) (by decide) ?_
        refine wp_callV0 (d' := d - 1) cv_RX2_76 T rfl [(0, (-7))] [] rfl rfl (Or.inl ⟨_, _, hT.k0, by decide, rfl, by omega, by omega⟩) (by omega) (Nat.le_of_ble_eq_true rfl) dX2_readOr_37 rfl (Nat.le_of_ble_eq_true rfl) (by omega) (loc1 := [(2, (T : Int)), (0, (-7))]) rfl ?_
        refine sp_write hT hn J2 (by have := C2; have := B2; omega) (-7) (fun M4 J4 f4 => ?_)
        have F4 := (F2).tr f4
        have C4 : ((((c ++ ce) ++ c2) ++ [(-7)])).length ≤ y2 := by rw [List.length_append]; have := C2; show _ + 1 ≤ y2; omega
        refine wp_iinc (loc' := [(2, 23), (0, ((i : Int) + 1))]) dX2_readOr_40 rfl (by omega) rfl ?_
        refine wp_goto (tgt := 6) dX2_readOr_43 (by decide) ?_
        have eo : opO (lxT f z x) = -7 := (if_pos h20)
        have e : gL f z opO P (m + 1) x ce v = pbd (P (lxN f z x)) (fun y c' v' => gL f z opO P m y (ce ++ c' ++ [opO (lxT f z x)]) (fun e => jn (opO (lxT f z x)) (v e) (v' e))) := if_neg (by rw [eo]; decide)
        rw [e, r2] at k
        have Jn : RJ M4 f z T y2 (c ++ (ce ++ c2 ++ [opO (lxT f z x)])) o := by
          rw [eo]
          have := J4
          simpa [List.append_assoc] using this
        have Cn : (c ++ (ce ++ c2 ++ [opO (lxT f z x)])).length ≤ y2 := by
          have := C4
          simp only [List.length_append, List.length_cons, List.length_nil] at this ⊢
          omega
        exact ih (i + 1) y2 _ _ _ Q (by omega) Jn B2 Cn (fun M9 q9 => k M9 ⟨(F4).tr q9.1, q9.2⟩)
set_option maxRecDepth 20000 in
set_option maxHeartbeats 4000000 in
theorem ct_Or {l : Launch} {g : Gw} {n : Nat} {T : Nat} (hT : isT T) (hn : 60 ≤ n) {f : Nat → Int} {z : Int} {B : Nat} (hB12 : 12 ≤ B) (hB : BT f z) {o : Int} {P : Nat → PR} (hs : CMr l g n f z T m_X2_readAnd [(9, 0)] B o P) (hsd : CMd l g n f z T m_X2_readAnd [(9, 0)] B) (hq : ∀ x : Nat, (x : Int) ≤ z → PQ z x (P x)) : CMr l g n f z T m_X2_readOr [(9, 0)] (B + 1) o (gBn f z opO 160 P) := by
  intro d M0 Q x c hd hJ hx hC k
  have hb := hT.b
  have hz1 := hJ.1.2.2.2.2
  refine wp_aload_n dX2_readOr_0 rfl rfl ?_
  refine wp_callV0 (d' := d - 1) cv_RX2_73 23 rfl [] [] rfl rfl (Or.inl ⟨_, _, rfl, by decide, rfl, by omega, by omega⟩) (by omega) (Nat.le_of_ble_eq_true rfl) dX2_readOr_1 rfl (Nat.le_of_ble_eq_true rfl) (by omega) (loc1 := [(2, 23), (9, 0)]) rfl ?_
  refine hs _ _ _ _ _ (by omega) hJ hx (by have := hC; omega) (fun M1 q1 => ?_)
  obtain ⟨f1, q1⟩ := q1
  have F1 := ((Fr.rf : Fr (VJ T) M0 M0)).tr f1
  have b1 := hq _ hx
  generalize r1 : P x = w1 at q1 b1
  rcases w1 with p1 | ⟨y1, c1, v1⟩
  · have D1 : DJ M1 f z T p1 o := q1
    refine wp_iconst dX2_readOr_4 (by decide) ?_
    refine wp_istore_n (loc' := [(2, 23), (0, 0)]) dX2_readOr_5 rfl (Nat.le_of_ble_eq_true rfl) rfl ?_
    have e : gBn f z opO 160 P x = pbd (P x) (fun y c v => gL f z opO P 160 y c v) := rfl
    rw [e, r1] at k
    exact lpd_Or hT hn (D1) (fun M9 f9 d9 => k M9 ⟨(F1).tr f9, d9⟩)
  · have J1 : RJ M1 f z T y1 (c ++ c1) o := q1
    obtain ⟨b1, B1, _⟩ : x + c1.length ≤ y1 ∧ (y1 : Int) ≤ z ∧ _ := b1
    have C1 : ((c ++ c1)).length ≤ y1 := by rw [List.length_append]; have := hC; omega
    refine wp_iconst dX2_readOr_4 (by decide) ?_
    refine wp_istore_n (loc' := [(2, 23), (0, 0)]) dX2_readOr_5 rfl (Nat.le_of_ble_eq_true rfl) rfl ?_
    have e : gBn f z opO 160 P x = pbd (P x) (fun y c v => gL f z opO P 160 y c v) := rfl
    rw [e, r1] at k
    exact lp_Or hT hn hB12 hB hs hsd hq hd 160 0 y1 c1 v1 _ Q (by omega) (J1) B1 (by have := C1; omega) (fun M9 q9 => k M9 ⟨(F1).tr q9.1, q9.2⟩)
set_option maxRecDepth 20000 in
set_option maxHeartbeats 4000000 in
theorem ct_Compared {l : Launch} {g : Gw} {n : Nat} {T : Nat} (hT : isT T) (hn : 60 ≤ n) {f : Nat → Int} {z : Int} {B : Nat} (hB12 : 12 ≤ B) (hB : BT f z) {o : Int} {P : Nat → PR} (hs : CMr l g n f z T m_X2_readSum [(9, 0), (9, 0)] B o P) (hsd : CMd l g n f z T m_X2_readSum [(9, 0), (9, 0)] B) (hq : ∀ x : Nat, (x : Int) ≤ z → PQ z x (P x)) : CMr l g n f z T m_X2_readCompared [(9, 0)] (B + 1) o (gBn f z opC 1 P) := by
  intro d M0 Q x c hd hJ hx hC k
  have hb := hT.b
  have hz1 := hJ.1.2.2.2.2
  refine wp_aload_n dX2_readCompared_0 rfl rfl ?_
  refine wp_callV0 (d' := d - 1) cv_RX2_89 23 rfl [] [] rfl rfl (Or.inl ⟨_, _, rfl, by decide, rfl, by omega, by omega⟩) (by omega) (Nat.le_of_ble_eq_true rfl) dX2_readCompared_1 rfl (Nat.le_of_ble_eq_true rfl) (by omega) (loc1 := [(2, 23), (9, 0), (9, 0)]) rfl ?_
  refine hs _ _ _ _ _ (by omega) hJ hx (by have := hC; omega) (fun M1 q1 => ?_)
  obtain ⟨f1, q1⟩ := q1
  have F1 := ((Fr.rf : Fr (VJ T) M0 M0)).tr f1
  have b1 := hq _ hx
  generalize r1 : P x = w1 at q1 b1
  rcases w1 with p1 | ⟨y1, c1, v1⟩
  · have D1 : DJ M1 f z T p1 o := q1
    refine wp_aload_n dX2_readCompared_4 rfl rfl ?_
    refine wp_get 23 rfl fl_RX2_67 rfl ⟨by omega, by omega⟩ dX2_readCompared_5 rfl (v := 1) (D1.2.2.1) ?_
    refine wp_bipush dX2_readCompared_8 (by decide) (by decide) ?_
    refine wp_icmp_eq (tgt := 22) dX2_readCompared_10 (by decide) (fun h => absurd h (by decide)) (fun _ => ?_)
    refine wp_aload_n dX2_readCompared_13 rfl rfl ?_
    refine wp_get 23 rfl fl_RX2_67 rfl ⟨by omega, by omega⟩ dX2_readCompared_14 rfl (v := 1) (D1.2.2.1) ?_
    refine wp_bipush dX2_readCompared_17 (by decide) (by decide) ?_
    refine wp_icmp_ne (tgt := 55) dX2_readCompared_19 (by decide) (fun _ => ?_) (fun h => absurd h (by decide))
    refine wp_vret rfl dX2_readCompared_55 ?_
    have e : gBn f z opC 1 P x = pbd (P x) (fun y c v => gL f z opC P 1 y c v) := rfl
    rw [e, r1] at k
    exact k _ ⟨F1, D1⟩
  · have J1 : RJ M1 f z T y1 (c ++ c1) o := q1
    obtain ⟨b1, B1, _⟩ : x + c1.length ≤ y1 ∧ (y1 : Int) ≤ z ∧ _ := b1
    have C1 : ((c ++ c1)).length ≤ y1 := by rw [List.length_append]; have := hC; omega
    refine wp_aload_n dX2_readCompared_4 rfl rfl ?_
    refine wp_get 23 rfl fl_RX2_67 rfl ⟨by omega, by omega⟩ dX2_readCompared_5 rfl (v := (lxT f z y1)) (J1.2.2.1.2.2.1) ?_
    refine wp_bipush dX2_readCompared_8 (by decide) (by decide) ?_
    refine wp_icmp_eq (tgt := 22) dX2_readCompared_10 (by decide) (fun h10 => ?_) (fun h10 => ?_)
    · refine wp_aload_n dX2_readCompared_22 rfl rfl ?_
      refine wp_get 23 rfl fl_RX2_67 rfl ⟨by omega, by omega⟩ dX2_readCompared_23 rfl (v := (lxT f z y1)) (J1.2.2.1.2.2.1) ?_
      refine wp_bipush dX2_readCompared_26 (by decide) (by decide) ?_
      refine wp_icmp_ne (tgt := 36) dX2_readCompared_28 (by decide) (fun h28 => ?_) (fun h28 => ?_)
      · refine wp_bipush dX2_readCompared_36 (by decide) (by decide) ?_
        refine wp_istore_n (loc' := [(2, 23), (0, (-11))]) dX2_readCompared_38 rfl (Nat.le_of_ble_eq_true rfl) rfl ?_
        refine wp_aload_n dX2_readCompared_39 rfl rfl ?_
        refine wp_callV0 (d' := d - 1) cv_RX2_51 23 rfl [] [] rfl rfl (Or.inl ⟨_, _, rfl, by decide, rfl, by omega, by omega⟩) (by omega) (Nat.le_of_ble_eq_true rfl) dX2_readCompared_40 rfl (Nat.le_of_ble_eq_true rfl) (by omega) (loc1 := [(2, 23), (9, 0)]) rfl ?_
        refine sp_step hn (J1).1 (by omega) hB (J1).2.2.1.2.1 (lxN_le B1).1 (fun M2 f2 l2 => ?_)
        have J2 := (J1).step hT f2 l2
        have F2 := (F1).tr (f2.mono VR36.j)
        have X2 := lxN_le (f := f) B1
        have Y2 := lxA_le (f := f) B1
        have C2 : ((c ++ c1)).length + 1 ≤ (lxN f z y1) := by have := C1; have := X2.2.2 (by omega); omega
        refine wp_aload_n dX2_readCompared_43 rfl rfl ?_
        refine wp_callV0 (d' := d - 1) cv_RX2_89 23 rfl [] [] rfl rfl (Or.inl ⟨_, _, rfl, by decide, rfl, by omega, by omega⟩) (by omega) (Nat.le_of_ble_eq_true rfl) dX2_readCompared_44 rfl (Nat.le_of_ble_eq_true rfl) (by omega) (loc1 := [(2, 23), (9, 0), (9, 0)]) rfl ?_
        refine hs _ _ _ _ _ (by omega) J2 X2.1 (by have := C2; omega) (fun M3 q3 => ?_)
        obtain ⟨f3, q3⟩ := q3
        have F3 := (F2).tr f3
        have b3 := hq _ X2.1
        generalize r3 : P (lxN f z y1) = w3 at q3 b3
        rcases w3 with p3 | ⟨y3, c3, v3⟩
        · have D3 : DJ M3 f z T p3 o := q3
          refine wp_aload_n dX2_readCompared_47 rfl rfl ?_
          refine wp_get 23 rfl fl_RX2_33 rfl ⟨by omega, by omega⟩ dX2_readCompared_48 rfl (v := (T : Int)) (D3.2.1) ?_
          refine wp_iload_n dX2_readCompared_51 rfl rfl ?_
          refine wp_callV0 (d' := d - 1) cv_RX2_76 T rfl [(0, (-11))] [] rfl rfl (Or.inl ⟨_, _, hT.k0, by decide, rfl, by omega, by omega⟩) (by omega) (Nat.le_of_ble_eq_true rfl) dX2_readCompared_52 rfl (Nat.le_of_ble_eq_true rfl) (by omega) (loc1 := [(2, (T : Int)), (0, (-11))]) rfl ?_
          refine sp_writeD hT hn D3 (-11) (fun M4 D4 f4 => ?_)
          have F4 := (F3).tr f4
          refine wp_vret rfl dX2_readCompared_55 ?_
          have e : gBn f z opC 1 P x = pbd (P x) (fun y c v => gL f z opC P 1 y c v) := rfl
          rw [e, r1] at k
          have eo : opC (lxT f z y1) = -11 := (if_neg h28).trans (if_pos (by omega))
          have e2 : gL f z opC P 1 y1 c1 v1 = pbd (P (lxN f z y1)) (fun y c' v' => gL f z opC P 0 y (c1 ++ c' ++ [opC (lxT f z y1)]) (fun e => jn (opC (lxT f z y1)) (v1 e) (v' e))) := if_neg (by rw [eo]; decide)
          replace k : ∀ M', PoJ M0 f z T o c (gL f z opC P 1 y1 c1 v1) M' → Q none M' := k
          rw [e2, r3] at k
          exact k _ ⟨F4, D4⟩
        · have J3 : RJ M3 f z T y3 ((c ++ c1) ++ c3) o := q3
          obtain ⟨b3, B3, _⟩ : (lxN f z y1) + c3.length ≤ y3 ∧ (y3 : Int) ≤ z ∧ _ := b3
          have C3 : (((c ++ c1) ++ c3)).length + 1 ≤ y3 := by rw [List.length_append]; have := C2; omega
          refine wp_aload_n dX2_readCompared_47 rfl rfl ?_
          refine wp_get 23 rfl fl_RX2_33 rfl ⟨by omega, by omega⟩ dX2_readCompared_48 rfl (v := (T : Int)) (J3.2.1) ?_
          refine wp_iload_n dX2_readCompared_51 rfl rfl ?_
          refine wp_callV0 (d' := d - 1) cv_RX2_76 T rfl [(0, (-11))] [] rfl rfl (Or.inl ⟨_, _, hT.k0, by decide, rfl, by omega, by omega⟩) (by omega) (Nat.le_of_ble_eq_true rfl) dX2_readCompared_52 rfl (Nat.le_of_ble_eq_true rfl) (by omega) (loc1 := [(2, (T : Int)), (0, (-11))]) rfl ?_
          refine sp_write hT hn J3 (by have := C3; have := B3; omega) (-11) (fun M5 J5 f5 => ?_)
          have F5 := (F3).tr f5
          have C5 : ((((c ++ c1) ++ c3) ++ [(-11)])).length ≤ y3 := by rw [List.length_append]; have := C3; show _ + 1 ≤ y3; omega
          refine wp_vret rfl dX2_readCompared_55 ?_
          have e : gBn f z opC 1 P x = pbd (P x) (fun y c v => gL f z opC P 1 y c v) := rfl
          rw [e, r1] at k
          have eo : opC (lxT f z y1) = -11 := (if_neg h28).trans (if_pos (by omega))
          have e2 : gL f z opC P 1 y1 c1 v1 = pbd (P (lxN f z y1)) (fun y c' v' => gL f z opC P 0 y (c1 ++ c' ++ [opC (lxT f z y1)]) (fun e => jn (opC (lxT f z y1)) (v1 e) (v' e))) := if_neg (by rw [eo]; decide)
          replace k : ∀ M', PoJ M0 f z T o c (gL f z opC P 1 y1 c1 v1) M' → Q none M' := k
          rw [e2, r3] at k
          refine k _ ⟨F5, ?_⟩
          show RJ _ f z T y3 (c ++ (c1 ++ c3 ++ [opC (lxT f z y1)])) o
          rw [eo]
          have := J5
          simpa [List.append_assoc] using this
      · refine wp_bipush dX2_readCompared_31 (by decide) (by decide) ?_
        refine wp_goto (tgt := 38) dX2_readCompared_33 (by decide) ?_
        refine wp_istore_n (loc' := [(2, 23), (0, (-10))]) dX2_readCompared_38 rfl (Nat.le_of_ble_eq_true rfl) rfl ?_
        refine wp_aload_n dX2_readCompared_39 rfl rfl ?_
        refine wp_callV0 (d' := d - 1) cv_RX2_51 23 rfl [] [] rfl rfl (Or.inl ⟨_, _, rfl, by decide, rfl, by omega, by omega⟩) (by omega) (Nat.le_of_ble_eq_true rfl) dX2_readCompared_40 rfl (Nat.le_of_ble_eq_true rfl) (by omega) (loc1 := [(2, 23), (9, 0)]) rfl ?_
        refine sp_step hn (J1).1 (by omega) hB (J1).2.2.1.2.1 (lxN_le B1).1 (fun M6 f6 l6 => ?_)
        have J6 := (J1).step hT f6 l6
        have F6 := (F1).tr (f6.mono VR36.j)
        have X6 := lxN_le (f := f) B1
        have Y6 := lxA_le (f := f) B1
        have C6 : ((c ++ c1)).length + 1 ≤ (lxN f z y1) := by have := C1; have := X6.2.2 (by omega); omega
        refine wp_aload_n dX2_readCompared_43 rfl rfl ?_
        refine wp_callV0 (d' := d - 1) cv_RX2_89 23 rfl [] [] rfl rfl (Or.inl ⟨_, _, rfl, by decide, rfl, by omega, by omega⟩) (by omega) (Nat.le_of_ble_eq_true rfl) dX2_readCompared_44 rfl (Nat.le_of_ble_eq_true rfl) (by omega) (loc1 := [(2, 23), (9, 0), (9, 0)]) rfl ?_
        refine hs _ _ _ _ _ (by omega) J6 X6.1 (by have := C6; omega) (fun M7 q7 => ?_)
        obtain ⟨f7, q7⟩ := q7
        have F7 := (F6).tr f7
        have b7 := hq _ X6.1
        generalize r7 : P (lxN f z y1) = w7 at q7 b7
        rcases w7 with p7 | ⟨y7, c7, v7⟩
        · have D7 : DJ M7 f z T p7 o := q7
          refine wp_aload_n dX2_readCompared_47 rfl rfl ?_
          refine wp_get 23 rfl fl_RX2_33 rfl ⟨by omega, by omega⟩ dX2_readCompared_48 rfl (v := (T : Int)) (D7.2.1) ?_
          refine wp_iload_n dX2_readCompared_51 rfl rfl ?_
          refine wp_callV0 (d' := d - 1) cv_RX2_76 T rfl [(0, (-10))] [] rfl rfl (Or.inl ⟨_, _, hT.k0, by decide, rfl, by omega, by omega⟩) (by omega) (Nat.le_of_ble_eq_true rfl) dX2_readCompared_52 rfl (Nat.le_of_ble_eq_true rfl) (by omega) (loc1 := [(2, (T : Int)), (0, (-10))]) rfl ?_
          refine sp_writeD hT hn D7 (-10) (fun M8 D8 f8 => ?_)
          have F8 := (F7).tr f8
          refine wp_vret rfl dX2_readCompared_55 ?_
          have e : gBn f z opC 1 P x = pbd (P x) (fun y c v => gL f z opC P 1 y c v) := rfl
          rw [e, r1] at k
          have eo : opC (lxT f z y1) = -10 := if_pos h28
          have e2 : gL f z opC P 1 y1 c1 v1 = pbd (P (lxN f z y1)) (fun y c' v' => gL f z opC P 0 y (c1 ++ c' ++ [opC (lxT f z y1)]) (fun e => jn (opC (lxT f z y1)) (v1 e) (v' e))) := if_neg (by rw [eo]; decide)
          replace k : ∀ M', PoJ M0 f z T o c (gL f z opC P 1 y1 c1 v1) M' → Q none M' := k
          rw [e2, r7] at k
          exact k _ ⟨F8, D8⟩
        · have J7 : RJ M7 f z T y7 ((c ++ c1) ++ c7) o := q7
          obtain ⟨b7, B7, _⟩ : (lxN f z y1) + c7.length ≤ y7 ∧ (y7 : Int) ≤ z ∧ _ := b7
          have C7 : (((c ++ c1) ++ c7)).length + 1 ≤ y7 := by rw [List.length_append]; have := C6; omega
          refine wp_aload_n dX2_readCompared_47 rfl rfl ?_
          refine wp_get 23 rfl fl_RX2_33 rfl ⟨by omega, by omega⟩ dX2_readCompared_48 rfl (v := (T : Int)) (J7.2.1) ?_
          refine wp_iload_n dX2_readCompared_51 rfl rfl ?_
          refine wp_callV0 (d' := d - 1) cv_RX2_76 T rfl [(0, (-10))] [] rfl rfl (Or.inl ⟨_, _, hT.k0, by decide, rfl, by omega, by omega⟩) (by omega) (Nat.le_of_ble_eq_true rfl) dX2_readCompared_52 rfl (Nat.le_of_ble_eq_true rfl) (by omega) (loc1 := [(2, (T : Int)), (0, (-10))]) rfl ?_
          refine sp_write hT hn J7 (by have := C7; have := B7; omega) (-10) (fun M9 J9 f9 => ?_)
          have F9 := (F7).tr f9
          have C9 : ((((c ++ c1) ++ c7) ++ [(-10)])).length ≤ y7 := by rw [List.length_append]; have := C7; show _ + 1 ≤ y7; omega
          refine wp_vret rfl dX2_readCompared_55 ?_
          have e : gBn f z opC 1 P x = pbd (P x) (fun y c v => gL f z opC P 1 y c v) := rfl
          rw [e, r1] at k
          have eo : opC (lxT f z y1) = -10 := if_pos h28
          have e2 : gL f z opC P 1 y1 c1 v1 = pbd (P (lxN f z y1)) (fun y c' v' => gL f z opC P 0 y (c1 ++ c' ++ [opC (lxT f z y1)]) (fun e => jn (opC (lxT f z y1)) (v1 e) (v' e))) := if_neg (by rw [eo]; decide)
          replace k : ∀ M', PoJ M0 f z T o c (gL f z opC P 1 y1 c1 v1) M' → Q none M' := k
          rw [e2, r7] at k
          refine k _ ⟨F9, ?_⟩
          show RJ _ f z T y7 (c ++ (c1 ++ c7 ++ [opC (lxT f z y1)])) o
          rw [eo]
          have := J9
          simpa [List.append_assoc] using this
    · refine wp_aload_n dX2_readCompared_13 rfl rfl ?_
      refine wp_get 23 rfl fl_RX2_67 rfl ⟨by omega, by omega⟩ dX2_readCompared_14 rfl (v := (lxT f z y1)) (J1.2.2.1.2.2.1) ?_
      refine wp_bipush dX2_readCompared_17 (by decide) (by decide) ?_
      refine wp_icmp_ne (tgt := 55) dX2_readCompared_19 (by decide) (fun h19 => ?_) (fun h19 => ?_)
      · refine wp_vret rfl dX2_readCompared_55 ?_
        have e : gBn f z opC 1 P x = pbd (P x) (fun y c v => gL f z opC P 1 y c v) := rfl
        rw [e, r1] at k
        have e2 : gL f z opC P 1 y1 c1 v1 = .inr (y1, c1, v1) := if_pos (show opC (lxT f z y1) = 0 from (if_neg h10).trans (if_neg h19))
        replace k : ∀ M', PoJ M0 f z T o c (gL f z opC P 1 y1 c1 v1) M' → Q none M' := k
        rw [e2] at k
        exact k _ ⟨F1, J1⟩
      · refine wp_aload_n dX2_readCompared_22 rfl rfl ?_
        refine wp_get 23 rfl fl_RX2_67 rfl ⟨by omega, by omega⟩ dX2_readCompared_23 rfl (v := (lxT f z y1)) (J1.2.2.1.2.2.1) ?_
        refine wp_bipush dX2_readCompared_26 (by decide) (by decide) ?_
        refine wp_icmp_ne (tgt := 36) dX2_readCompared_28 (by decide) (fun h28 => ?_) (fun h28 => ?_)
        · refine wp_bipush dX2_readCompared_36 (by decide) (by decide) ?_
          refine wp_istore_n (loc' := [(2, 23), (0, (-11))]) dX2_readCompared_38 rfl (Nat.le_of_ble_eq_true rfl) rfl ?_
          refine wp_aload_n dX2_readCompared_39 rfl rfl ?_
          refine wp_callV0 (d' := d - 1) cv_RX2_51 23 rfl [] [] rfl rfl (Or.inl ⟨_, _, rfl, by decide, rfl, by omega, by omega⟩) (by omega) (Nat.le_of_ble_eq_true rfl) dX2_readCompared_40 rfl (Nat.le_of_ble_eq_true rfl) (by omega) (loc1 := [(2, 23), (9, 0)]) rfl ?_
          refine sp_step hn (J1).1 (by omega) hB (J1).2.2.1.2.1 (lxN_le B1).1 (fun M10 f10 l10 => ?_)
          have J10 := (J1).step hT f10 l10
          have F10 := (F1).tr (f10.mono VR36.j)
          have X10 := lxN_le (f := f) B1
          have Y10 := lxA_le (f := f) B1
          have C10 : ((c ++ c1)).length + 1 ≤ (lxN f z y1) := by have := C1; have := X10.2.2 (by omega); omega
          refine wp_aload_n dX2_readCompared_43 rfl rfl ?_
          refine wp_callV0 (d' := d - 1) cv_RX2_89 23 rfl [] [] rfl rfl (Or.inl ⟨_, _, rfl, by decide, rfl, by omega, by omega⟩) (by omega) (Nat.le_of_ble_eq_true rfl) dX2_readCompared_44 rfl (Nat.le_of_ble_eq_true rfl) (by omega) (loc1 := [(2, 23), (9, 0), (9, 0)]) rfl ?_
          refine hs _ _ _ _ _ (by omega) J10 X10.1 (by have := C10; omega) (fun M11 q11 => ?_)
          obtain ⟨f11, q11⟩ := q11
          have F11 := (F10).tr f11
          have b11 := hq _ X10.1
          generalize r11 : P (lxN f z y1) = w11 at q11 b11
          rcases w11 with p11 | ⟨y11, c11, v11⟩
          · have D11 : DJ M11 f z T p11 o := q11
            refine wp_aload_n dX2_readCompared_47 rfl rfl ?_
            refine wp_get 23 rfl fl_RX2_33 rfl ⟨by omega, by omega⟩ dX2_readCompared_48 rfl (v := (T : Int)) (D11.2.1) ?_
            refine wp_iload_n dX2_readCompared_51 rfl rfl ?_
            refine wp_callV0 (d' := d - 1) cv_RX2_76 T rfl [(0, (-11))] [] rfl rfl (Or.inl ⟨_, _, hT.k0, by decide, rfl, by omega, by omega⟩) (by omega) (Nat.le_of_ble_eq_true rfl) dX2_readCompared_52 rfl (Nat.le_of_ble_eq_true rfl) (by omega) (loc1 := [(2, (T : Int)), (0, (-11))]) rfl ?_
            refine sp_writeD hT hn D11 (-11) (fun M12 D12 f12 => ?_)
            have F12 := (F11).tr f12
            refine wp_vret rfl dX2_readCompared_55 ?_
            have e : gBn f z opC 1 P x = pbd (P x) (fun y c v => gL f z opC P 1 y c v) := rfl
            rw [e, r1] at k
            have eo : opC (lxT f z y1) = -11 := (if_neg h28).trans (if_pos (by omega))
            have e2 : gL f z opC P 1 y1 c1 v1 = pbd (P (lxN f z y1)) (fun y c' v' => gL f z opC P 0 y (c1 ++ c' ++ [opC (lxT f z y1)]) (fun e => jn (opC (lxT f z y1)) (v1 e) (v' e))) := if_neg (by rw [eo]; decide)
            replace k : ∀ M', PoJ M0 f z T o c (gL f z opC P 1 y1 c1 v1) M' → Q none M' := k
            rw [e2, r11] at k
            exact k _ ⟨F12, D12⟩
          · have J11 : RJ M11 f z T y11 ((c ++ c1) ++ c11) o := q11
            obtain ⟨b11, B11, _⟩ : (lxN f z y1) + c11.length ≤ y11 ∧ (y11 : Int) ≤ z ∧ _ := b11
            have C11 : (((c ++ c1) ++ c11)).length + 1 ≤ y11 := by rw [List.length_append]; have := C10; omega
            refine wp_aload_n dX2_readCompared_47 rfl rfl ?_
            refine wp_get 23 rfl fl_RX2_33 rfl ⟨by omega, by omega⟩ dX2_readCompared_48 rfl (v := (T : Int)) (J11.2.1) ?_
            refine wp_iload_n dX2_readCompared_51 rfl rfl ?_
            refine wp_callV0 (d' := d - 1) cv_RX2_76 T rfl [(0, (-11))] [] rfl rfl (Or.inl ⟨_, _, hT.k0, by decide, rfl, by omega, by omega⟩) (by omega) (Nat.le_of_ble_eq_true rfl) dX2_readCompared_52 rfl (Nat.le_of_ble_eq_true rfl) (by omega) (loc1 := [(2, (T : Int)), (0, (-11))]) rfl ?_
            refine sp_write hT hn J11 (by have := C11; have := B11; omega) (-11) (fun M13 J13 f13 => ?_)
            have F13 := (F11).tr f13
            have C13 : ((((c ++ c1) ++ c11) ++ [(-11)])).length ≤ y11 := by rw [List.length_append]; have := C11; show _ + 1 ≤ y11; omega
            refine wp_vret rfl dX2_readCompared_55 ?_
            have e : gBn f z opC 1 P x = pbd (P x) (fun y c v => gL f z opC P 1 y c v) := rfl
            rw [e, r1] at k
            have eo : opC (lxT f z y1) = -11 := (if_neg h28).trans (if_pos (by omega))
            have e2 : gL f z opC P 1 y1 c1 v1 = pbd (P (lxN f z y1)) (fun y c' v' => gL f z opC P 0 y (c1 ++ c' ++ [opC (lxT f z y1)]) (fun e => jn (opC (lxT f z y1)) (v1 e) (v' e))) := if_neg (by rw [eo]; decide)
            replace k : ∀ M', PoJ M0 f z T o c (gL f z opC P 1 y1 c1 v1) M' → Q none M' := k
            rw [e2, r11] at k
            refine k _ ⟨F13, ?_⟩
            show RJ _ f z T y11 (c ++ (c1 ++ c11 ++ [opC (lxT f z y1)])) o
            rw [eo]
            have := J13
            simpa [List.append_assoc] using this
        · refine wp_bipush dX2_readCompared_31 (by decide) (by decide) ?_
          refine wp_goto (tgt := 38) dX2_readCompared_33 (by decide) ?_
          refine wp_istore_n (loc' := [(2, 23), (0, (-10))]) dX2_readCompared_38 rfl (Nat.le_of_ble_eq_true rfl) rfl ?_
          refine wp_aload_n dX2_readCompared_39 rfl rfl ?_
          refine wp_callV0 (d' := d - 1) cv_RX2_51 23 rfl [] [] rfl rfl (Or.inl ⟨_, _, rfl, by decide, rfl, by omega, by omega⟩) (by omega) (Nat.le_of_ble_eq_true rfl) dX2_readCompared_40 rfl (Nat.le_of_ble_eq_true rfl) (by omega) (loc1 := [(2, 23), (9, 0)]) rfl ?_
          refine sp_step hn (J1).1 (by omega) hB (J1).2.2.1.2.1 (lxN_le B1).1 (fun M14 f14 l14 => ?_)
          have J14 := (J1).step hT f14 l14
          have F14 := (F1).tr (f14.mono VR36.j)
          have X14 := lxN_le (f := f) B1
          have Y14 := lxA_le (f := f) B1
          have C14 : ((c ++ c1)).length + 1 ≤ (lxN f z y1) := by have := C1; have := X14.2.2 (by omega); omega
          refine wp_aload_n dX2_readCompared_43 rfl rfl ?_
          refine wp_callV0 (d' := d - 1) cv_RX2_89 23 rfl [] [] rfl rfl (Or.inl ⟨_, _, rfl, by decide, rfl, by omega, by omega⟩) (by omega) (Nat.le_of_ble_eq_true rfl) dX2_readCompared_44 rfl (Nat.le_of_ble_eq_true rfl) (by omega) (loc1 := [(2, 23), (9, 0), (9, 0)]) rfl ?_
          refine hs _ _ _ _ _ (by omega) J14 X14.1 (by have := C14; omega) (fun M15 q15 => ?_)
          obtain ⟨f15, q15⟩ := q15
          have F15 := (F14).tr f15
          have b15 := hq _ X14.1
          generalize r15 : P (lxN f z y1) = w15 at q15 b15
          rcases w15 with p15 | ⟨y15, c15, v15⟩
          · have D15 : DJ M15 f z T p15 o := q15
            refine wp_aload_n dX2_readCompared_47 rfl rfl ?_
            refine wp_get 23 rfl fl_RX2_33 rfl ⟨by omega, by omega⟩ dX2_readCompared_48 rfl (v := (T : Int)) (D15.2.1) ?_
            refine wp_iload_n dX2_readCompared_51 rfl rfl ?_
            refine wp_callV0 (d' := d - 1) cv_RX2_76 T rfl [(0, (-10))] [] rfl rfl (Or.inl ⟨_, _, hT.k0, by decide, rfl, by omega, by omega⟩) (by omega) (Nat.le_of_ble_eq_true rfl) dX2_readCompared_52 rfl (Nat.le_of_ble_eq_true rfl) (by omega) (loc1 := [(2, (T : Int)), (0, (-10))]) rfl ?_
            refine sp_writeD hT hn D15 (-10) (fun M16 D16 f16 => ?_)
            have F16 := (F15).tr f16
            refine wp_vret rfl dX2_readCompared_55 ?_
            have e : gBn f z opC 1 P x = pbd (P x) (fun y c v => gL f z opC P 1 y c v) := rfl
            rw [e, r1] at k
            have eo : opC (lxT f z y1) = -10 := if_pos h28
            have e2 : gL f z opC P 1 y1 c1 v1 = pbd (P (lxN f z y1)) (fun y c' v' => gL f z opC P 0 y (c1 ++ c' ++ [opC (lxT f z y1)]) (fun e => jn (opC (lxT f z y1)) (v1 e) (v' e))) := if_neg (by rw [eo]; decide)
            replace k : ∀ M', PoJ M0 f z T o c (gL f z opC P 1 y1 c1 v1) M' → Q none M' := k
            rw [e2, r15] at k
            exact k _ ⟨F16, D16⟩
          · have J15 : RJ M15 f z T y15 ((c ++ c1) ++ c15) o := q15
            obtain ⟨b15, B15, _⟩ : (lxN f z y1) + c15.length ≤ y15 ∧ (y15 : Int) ≤ z ∧ _ := b15
            have C15 : (((c ++ c1) ++ c15)).length + 1 ≤ y15 := by rw [List.length_append]; have := C14; omega
            refine wp_aload_n dX2_readCompared_47 rfl rfl ?_
            refine wp_get 23 rfl fl_RX2_33 rfl ⟨by omega, by omega⟩ dX2_readCompared_48 rfl (v := (T : Int)) (J15.2.1) ?_
            refine wp_iload_n dX2_readCompared_51 rfl rfl ?_
            refine wp_callV0 (d' := d - 1) cv_RX2_76 T rfl [(0, (-10))] [] rfl rfl (Or.inl ⟨_, _, hT.k0, by decide, rfl, by omega, by omega⟩) (by omega) (Nat.le_of_ble_eq_true rfl) dX2_readCompared_52 rfl (Nat.le_of_ble_eq_true rfl) (by omega) (loc1 := [(2, (T : Int)), (0, (-10))]) rfl ?_
            refine sp_write hT hn J15 (by have := C15; have := B15; omega) (-10) (fun M17 J17 f17 => ?_)
            have F17 := (F15).tr f17
            have C17 : ((((c ++ c1) ++ c15) ++ [(-10)])).length ≤ y15 := by rw [List.length_append]; have := C15; show _ + 1 ≤ y15; omega
            refine wp_vret rfl dX2_readCompared_55 ?_
            have e : gBn f z opC 1 P x = pbd (P x) (fun y c v => gL f z opC P 1 y c v) := rfl
            rw [e, r1] at k
            have eo : opC (lxT f z y1) = -10 := if_pos h28
            have e2 : gL f z opC P 1 y1 c1 v1 = pbd (P (lxN f z y1)) (fun y c' v' => gL f z opC P 0 y (c1 ++ c' ++ [opC (lxT f z y1)]) (fun e => jn (opC (lxT f z y1)) (v1 e) (v' e))) := if_neg (by rw [eo]; decide)
            replace k : ∀ M', PoJ M0 f z T o c (gL f z opC P 1 y1 c1 v1) M' → Q none M' := k
            rw [e2, r15] at k
            refine k _ ⟨F17, ?_⟩
            show RJ _ f z T y15 (c ++ (c1 ++ c15 ++ [opC (lxT f z y1)])) o
            rw [eo]
            have := J17
            simpa [List.append_assoc] using this
