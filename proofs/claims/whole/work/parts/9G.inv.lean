/-! ===== what holds between two calls ===== -/
def IMG (M : Mm) (A K : Ls) : Prop := (M 1 3 = 0 ∧ M 69 46 = -1) ∨ (M 1 3 = 1 ∧ Rc M 9 K ∧ KPm M K ∧ Wf K ∧ (0 ≤ K.1 1 ∧ K.1 1 < M 25 1) ∧ K.1 2 ≤ A.1 2 ∧ (∀ i : Nat, (i : Int) < K.1 2 → A.2 0 i = K.2 0 i) ∧ (0 ≤ K.1 0 ∧ K.1 0 ≤ 999))
def TPE (M : Mm) : Prop := M 23 1 = M 69 6 ∧ 0 ≤ M 23 1 ∧ M 23 1 ≤ 160 ∧ ∀ i : Nat, (i : Int) < M 23 1 → M 24 i = M 72 i ∧ 0 ≤ M 24 i ∧ M 24 i ≤ 255
def IV (M : Mm) (A K : Ls) (B : Mm) (sq : Int) : Prop := CJ M A ∧ MJ M A (evC M) ∧ (0 ≤ A.1 0 ∧ A.1 0 ≤ 999) ∧ IMG M A K ∧ M 25 1 = M 69 3 ∧ TPE M ∧ (Rs M B ∧ Rms M B ∧ Ws B) ∧ SQ0 M ∧ M 52 5 ≤ sq
/-- cells of the model that no call but feed, text, image, sheet .. changes -/
def VMq2 (i j : Nat) : Prop := i = 70 ∨ i = 71 ∨ i = 72 ∨ i = 85 ∨ i = 86 ∨ (87 ≤ i ∧ i ≤ 90) ∨ (i = 69 ∧ (j = 3 ∨ j = 6 ∨ (45 ≤ j ∧ j ≤ 48)))
/-- cells that calls of the line, of orders change -/
def VLm (i j : Nat) : Prop := VX i j ∨ (i = 2 ∧ j < 4) ∨ (2 < i ∧ i ≤ 8) ∨ (16 ≤ i ∧ i ≤ 22) ∨ (52 ≤ i ∧ i ≤ 59) ∨ (69 ≤ i ∧ ¬ VMq2 i j)
theorem VLm.n : ∀ i j, VLm i j → VN i j := by
  intro i j h
  unfold VLm at h
  unfold VN
  rcases h with h | h
  · exact Or.inr h
  · left; omega
theorem IV.land {M M2 : Mm} {A A2 K : Ls} {B : Mm} {sq : Int} (h : IV M A K B sq) (f : Fr VLm M M2) (hC : CJ M2 A2) (hJ : MJ M2 A2 (evC M)) (h0 : 0 ≤ A2.1 0 ∧ A2.1 0 ≤ 999) (hk1 : A.1 2 ≤ A2.1 2) (hk2 : ∀ i : Nat, (i : Int) < A.1 2 → A2.2 0 i = A.2 0 i) (hq : SQ0 M2 ∧ M2 52 5 ≤ sq + 20) : IV M2 A2 K B (sq + 20) := by
  obtain ⟨_, _, _, a4, a5, a6, a7, _, _⟩ := h
  have ev : evC M2 = evC M := evC_frN (f.mono VLm.n)
  have e : ∀ i j, ¬ VLm i j → M2 i j = M i j := f
  have e13 : M2 1 3 = M 1 3 := e 1 3 (by unfold VLm VX; omega)
  have e46 : M2 69 46 = M 69 46 := e 69 46 (by unfold VLm VX VMq2; omega)
  have e251 : M2 25 1 = M 25 1 := e 25 1 (by unfold VLm VX; omega)
  have e693 : M2 69 3 = M 69 3 := e 69 3 (by unfold VLm VX VMq2; omega)
  have e231 : M2 23 1 = M 23 1 := e 23 1 (by unfold VLm VX; omega)
  have e696 : M2 69 6 = M 69 6 := e 69 6 (by unfold VLm VX VMq2; omega)
  refine ⟨hC, by rw [ev]; exact hJ, h0, ?_, by rw [e251, e693]; exact a5, ?_, ⟨?_, a7.2.1.fr f (fun i j v => ?_), a7.2.2⟩, hq⟩
  · rcases a4 with ⟨b1, b2⟩ | ⟨b1, b2, b3, b4, b5, b6, b7, b8⟩
    · exact Or.inl ⟨e13.trans b1, e46.trans b2⟩
    · refine Or.inr ⟨e13.trans b1, b2.frV f (fun i j v => ?_), b3.fr f (fun i j v => ?_), b4, ⟨b5.1, by rw [e251]; exact b5.2⟩, by omega, fun i hi => (hk2 i (by omega)).trans (b7 i hi), b8⟩
      · unfold VLm VX at v; omega
      · unfold VLm VX VMq2 at v; unfold VMk; omega
  · refine ⟨by rw [e231, e696]; exact a6.1, by rw [e231]; exact a6.2.1, by rw [e231]; exact a6.2.2.1, fun i hi => ?_⟩
    rw [e 24 i (by unfold VLm VX; omega), e 72 i (by unfold VLm VX VMq2; omega)]
    exact a6.2.2.2 i (by rw [← e231]; exact hi)
  · intro s hs
    obtain ⟨b1, b2, b3⟩ := a7.1 s hs
    exact ⟨(e _ 1 (by unfold VLm VX; omega)).trans b1, (e _ 2 (by unfold VLm VX; omega)).trans b2, fun i hi => (e _ i (by unfold VLm VX; omega)).trans (b3 i hi)⟩
  · unfold VLm VX VMq2 at v; unfold VMh; omega
/-- a call of the class: the model's cells stay -/
def VCl (i j : Nat) : Prop := i < 69
theorem VCl.n : ∀ i j, VCl i j → VMn i j := by
  intro i j h
  unfold VCl at h
  unfold VMn
  omega
theorem IV.mj {M M1 : Mm} {A K : Ls} {B : Mm} {sq : Int} (h : IV M A K B sq) (f : Fr VCl M M1) (hR : SR M1) : MJ M1 A (evC M) := h.2.1.frn (f.mono VCl.n) hR
theorem CJ.mdl {M M' : Mm} {A : Ls} (h : CJ M A) (f : Fr (fun i _ => 69 ≤ i) M M') (hR : SR M') : CJ M' A := h.fr f hR (fun i j v => by
  have v : 69 ≤ i := v
  exact ⟨by unfold VN; left; omega, by omega⟩)
theorem sc_r (g : Gw) (j : Nat) : -2147483648 ≤ (scI g j).toInt ∧ (scI g j).toInt < 2147483648 := r_rng _
theorem lm_VX : ∀ i j, VX i j → VLm i j ∧ VCl i j := by
  intro i j h
  unfold VX at h
  unfold VLm VCl VX
  omega
theorem lm_VH : ∀ i j, VH i j → VLm i j ∧ VCl i j := by
  intro i j h
  unfold VH VX at h
  unfold VLm VCl VX
  omega
theorem lm_VW : ∀ i j, VW i j → VLm i j ∧ VCl i j := by
  intro i j h
  unfold VW VX at h
  unfold VLm VCl VX
  omega
theorem lm_VI : ∀ i j, VI i j → VLm i j ∧ VCl i j := by
  intro i j h
  unfold VI VX VY at h
  unfold VLm VCl VX
  omega
theorem lm_VU : ∀ i j, VU i j → VLm i j ∧ VCl i j := by
  intro i j h
  unfold VU VW VI VX VY at h
  unfold VLm VCl VX
  omega
theorem lm_V2 : ∀ i j, V2 i j → VLm i j ∧ VCl i j := by
  intro i j h
  unfold V2 at h
  unfold VLm VCl VX
  omega
theorem lm_VG2 : ∀ i j, (VG 2) i j → VLm i j ∧ VCl i j := by
  intro i j h
  unfold VG VX at h
  unfold VLm VCl VX
  omega
theorem lm_VMs : ∀ i j, VMs i j → VLm i j ∧ 69 ≤ i := by
  intro i j h
  unfold VMs at h
  unfold VLm VMq2
  omega
theorem lm_VMl : ∀ i j, VMl i j → VLm i j ∧ 69 ≤ i := by
  intro i j h
  unfold VMl VMs at h
  unfold VLm VMq2
  omega
theorem lm_VMt : ∀ i j, VMt i j → VLm i j ∧ 69 ≤ i := by
  intro i j h
  unfold VMt VMl VMs VMw at h
  unfold VLm VMq2
  omega
theorem lm_VMo : ∀ i j, VMo i j → VLm i j ∧ 69 ≤ i := by
  intro i j h
  unfold VMo VMs at h
  unfold VLm VMq2
  omega
theorem lm_VMp : ∀ i j, VMp i j → VLm i j ∧ 69 ≤ i := by
  intro i j h
  unfold VMp VMo VMs at h
  unfold VLm VMq2
  omega
theorem lm_VMy : ∀ i j, VMy i j → VLm i j ∧ 69 ≤ i := by
  intro i j h
  unfold VMy VMo VMs at h
  unfold VLm VMq2
  omega
theorem SQ0.fr {M M2 : Mm} {V : Nat → Nat → Prop} {sq : Int} (h : SQ0 M ∧ M 52 5 ≤ sq) (f : Fr V M M2) (hv : ∀ i j, V i j → i ≠ 52 ∧ i ≠ 55) : SQ0 M2 ∧ M2 52 5 ≤ sq + 20 := by
  have e1 : M2 52 5 = M 52 5 := f 52 5 (fun v => (hv _ _ v).1 rfl)
  have e2 : ∀ c, M2 55 c = M 55 c := fun c => f 55 c (fun v => (hv _ _ v).2 rfl)
  refine ⟨⟨by rw [e1]; exact h.1.1, fun c hc => ?_⟩, by rw [e1]; omega⟩
  rw [e1, e2]
  exact h.1.2 c hc
theorem tick_0 {E : Ev} {A : Ls} (h : 0 ≤ A.1 0 ∧ A.1 0 < 999) : (tickA E A).1.1 0 = A.1 0 + 1 := by
  have e : wrap (A.1 0 + 1) = A.1 0 + 1 := wrap_id (by omega)
  unfold tickA
  split
  · split
    · exact e
    · exact e
  · exact e
theorem hst_same (E : Ev) : ∀ (m q : Nat) (A : Ls), (hstA E m q A).1.1 = A.1 ∧ (hstA E m q A).1.2 0 = A.2 0
  | 0, _, _ => ⟨rfl, rfl⟩
  | m + 1, q, A => by
    unfold hstA
    split
    · exact hst_same E m (q + 1) (swapA A q)
    · exact hst_same E m (q + 1) A
theorem prs_same {A : Ls} {x y : Int} (hW : Wf A) : (prsA A x y).1.1 0 = A.1 0 ∧ (prsA A x y).1.1 1 = A.1 1 ∧ A.1 2 ≤ (prsA A x y).1.1 2 ∧ ∀ i : Nat, (i : Int) < A.1 2 → (prsA A x y).1.2 0 i = A.2 0 i := by
  unfold prsA
  split
  · exact ⟨rfl, rfl, Int.le_refl _, fun _ _ => rfl⟩
  · split
    · exact ⟨rfl, rfl, Int.le_refl _, fun _ _ => rfl⟩
    · refine ⟨rfl, rfl, ?_, fun i hi => ?_⟩
      · show A.1 2 ≤ A.1 2 + 1
        omega
      · show (if (0 : Nat) = 5 then (if i = (A.1 3).toNat then A.1 2 else A.2 5 i) else if i = (A.1 2).toNat then (if (0 : Nat) = 0 then x else if (0 : Nat) = 1 then y else 0) else A.2 0 i) = A.2 0 i
        rw [if_neg (by decide), if_neg (by omega)]
theorem ppl_same {f : Nat → Int} {z at' : Int} : ∀ (m k : Nat) (A : Ls) (c : Int), Wf A → (pplA f z at' m k A c).1.1 0 = A.1 0 ∧ A.1 2 ≤ (pplA f z at' m k A c).1.1 2 ∧ ∀ i : Nat, (i : Int) < A.1 2 → (pplA f z at' m k A c).1.2 0 i = A.2 0 i
  | 0, _, A, _, _ => ⟨rfl, Int.le_refl _, fun _ _ => rfl⟩
  | m + 1, k, A, c, hW => by
    unfold pplA
    split
    · have h1 := prs_same (x := f (at'.toNat + 2 * k)) (y := f (at'.toNat + 2 * k + 1)) hW
      have hW2 : Wf (prsA A (f (at'.toNat + 2 * k)) (f (at'.toNat + 2 * k + 1))).1 := by
        unfold prsA
        split
        · exact hW
        · split
          · exact hW
          · have := hW.2.1
            exact hW.bear (by omega) (by omega)
      have h2 := ppl_same (f := f) (z := z) (at' := at') m (k + 1) _ (if 0 ≤ (prsA A (f (at'.toNat + 2 * k)) (f (at'.toNat + 2 * k + 1))).2 then c + 1 else c) hW2
      exact ⟨h2.1.trans h1.1, Int.le_trans h1.2.2.1 h2.2.1, fun i hi => (h2.2.2 i (Int.lt_of_lt_of_le hi h1.2.2.1)).trans (h1.2.2.2 i hi)⟩
    · exact ⟨rfl, Int.le_refl _, fun _ _ => rfl⟩
