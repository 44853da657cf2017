/-! ===== the references of the first sixty objects ===== -/
def srK : List (Nat × Nat × Int) := srL.filter (fun q => decide (q.1 < 60))
def SRr (M : Mm) : Prop := ∀ q ∈ srK, M q.1 q.2.1 = q.2.2
theorem SR.r {M : Mm} (h : SR M) : SRr M := fun q hq => h q (List.mem_filter.mp hq).1
theorem SRr.of {M M' : Mm} (h : SRr M) (e : ∀ q ∈ srK, M' q.1 q.2.1 = M q.1 q.2.1) : SRr M' := fun q hq => (e q hq).trans (h q hq)
theorem SRr.frL {M M' : Mm} {V : Nat → Nat → Prop} (hR : SRr M) (f : Fr V M M') (h : ∀ q ∈ srK, ¬ V q.1 q.2.1) : SRr M' := hR.of (fun q hq => f _ _ (h q hq))
theorem SRr.at {M : Mm} (h : SRr M) (k : Nat) {i j : Nat} {v : Int} (hk : srL[k]? = some (i, j, v)) (hi : i < 60) : M i j = v := h (i, j, v) (List.mem_filter.mpr ⟨List.mem_of_getElem? hk, decide_eq_true hi⟩)
theorem qr_1_0 {M : Mm} (h : SRr M) : M 1 0 = 2 := h.at 0 rfl (by decide)
theorem qr_1_1 {M : Mm} (h : SRr M) : M 1 1 = 9 := h.at 1 rfl (by decide)
theorem qr_1_2 {M : Mm} (h : SRr M) : M 1 2 = 16 := h.at 2 rfl (by decide)
theorem qr_1_4 {M : Mm} (h : SRr M) : M 1 4 = 23 := h.at 3 rfl (by decide)
theorem qr_1_5 {M : Mm} (h : SRr M) : M 1 5 = 25 := h.at 4 rfl (by decide)
theorem qr_1_6 {M : Mm} (h : SRr M) : M 1 6 = 51 := h.at 5 rfl (by decide)
theorem qr_1_7 {M : Mm} (h : SRr M) : M 1 7 = 52 := h.at 6 rfl (by decide)
theorem qr_1_8 {M : Mm} (h : SRr M) : M 1 8 = 60 := h.at 7 rfl (by decide)
theorem qr_2_4 {M : Mm} (h : SRr M) : M 2 4 = 3 := h.at 8 rfl (by decide)
theorem qr_2_5 {M : Mm} (h : SRr M) : M 2 5 = 4 := h.at 9 rfl (by decide)
theorem qr_2_6 {M : Mm} (h : SRr M) : M 2 6 = 5 := h.at 10 rfl (by decide)
theorem qr_2_7 {M : Mm} (h : SRr M) : M 2 7 = 6 := h.at 11 rfl (by decide)
theorem qr_2_8 {M : Mm} (h : SRr M) : M 2 8 = 7 := h.at 12 rfl (by decide)
theorem qr_2_9 {M : Mm} (h : SRr M) : M 2 9 = 8 := h.at 13 rfl (by decide)
theorem qr_9_4 {M : Mm} (h : SRr M) : M 9 4 = 10 := h.at 14 rfl (by decide)
theorem qr_9_5 {M : Mm} (h : SRr M) : M 9 5 = 11 := h.at 15 rfl (by decide)
theorem qr_9_6 {M : Mm} (h : SRr M) : M 9 6 = 12 := h.at 16 rfl (by decide)
theorem qr_9_7 {M : Mm} (h : SRr M) : M 9 7 = 13 := h.at 17 rfl (by decide)
theorem qr_9_8 {M : Mm} (h : SRr M) : M 9 8 = 14 := h.at 18 rfl (by decide)
theorem qr_9_9 {M : Mm} (h : SRr M) : M 9 9 = 15 := h.at 19 rfl (by decide)
theorem qr_16_4 {M : Mm} (h : SRr M) : M 16 4 = 17 := h.at 20 rfl (by decide)
theorem qr_16_5 {M : Mm} (h : SRr M) : M 16 5 = 18 := h.at 21 rfl (by decide)
theorem qr_16_6 {M : Mm} (h : SRr M) : M 16 6 = 19 := h.at 22 rfl (by decide)
theorem qr_16_7 {M : Mm} (h : SRr M) : M 16 7 = 20 := h.at 23 rfl (by decide)
theorem qr_16_8 {M : Mm} (h : SRr M) : M 16 8 = 21 := h.at 24 rfl (by decide)
theorem qr_16_9 {M : Mm} (h : SRr M) : M 16 9 = 22 := h.at 25 rfl (by decide)
theorem qr_23_0 {M : Mm} (h : SRr M) : M 23 0 = 24 := h.at 26 rfl (by decide)
theorem qr_25_0 {M : Mm} (h : SRr M) : M 25 0 = 26 := h.at 27 rfl (by decide)
theorem qr_26_0 {M : Mm} (h : SRr M) : M 26 0 = 27 := h.at 28 rfl (by decide)
theorem qr_27_0 {M : Mm} (h : SRr M) : M 27 0 = 28 := h.at 29 rfl (by decide)
theorem qr_27_1 {M : Mm} (h : SRr M) : M 27 1 = 29 := h.at 30 rfl (by decide)
theorem qr_27_3 {M : Mm} (h : SRr M) : M 27 3 = 30 := h.at 31 rfl (by decide)
theorem qr_26_1 {M : Mm} (h : SRr M) : M 26 1 = 31 := h.at 32 rfl (by decide)
theorem qr_31_0 {M : Mm} (h : SRr M) : M 31 0 = 32 := h.at 33 rfl (by decide)
theorem qr_31_1 {M : Mm} (h : SRr M) : M 31 1 = 33 := h.at 34 rfl (by decide)
theorem qr_31_3 {M : Mm} (h : SRr M) : M 31 3 = 34 := h.at 35 rfl (by decide)
theorem qr_26_2 {M : Mm} (h : SRr M) : M 26 2 = 35 := h.at 36 rfl (by decide)
theorem qr_35_0 {M : Mm} (h : SRr M) : M 35 0 = 36 := h.at 37 rfl (by decide)
theorem qr_35_1 {M : Mm} (h : SRr M) : M 35 1 = 37 := h.at 38 rfl (by decide)
theorem qr_35_3 {M : Mm} (h : SRr M) : M 35 3 = 38 := h.at 39 rfl (by decide)
theorem qr_26_3 {M : Mm} (h : SRr M) : M 26 3 = 39 := h.at 40 rfl (by decide)
theorem qr_39_0 {M : Mm} (h : SRr M) : M 39 0 = 40 := h.at 41 rfl (by decide)
theorem qr_39_1 {M : Mm} (h : SRr M) : M 39 1 = 41 := h.at 42 rfl (by decide)
theorem qr_39_3 {M : Mm} (h : SRr M) : M 39 3 = 42 := h.at 43 rfl (by decide)
theorem qr_26_4 {M : Mm} (h : SRr M) : M 26 4 = 43 := h.at 44 rfl (by decide)
theorem qr_43_0 {M : Mm} (h : SRr M) : M 43 0 = 44 := h.at 45 rfl (by decide)
theorem qr_43_1 {M : Mm} (h : SRr M) : M 43 1 = 45 := h.at 46 rfl (by decide)
theorem qr_43_3 {M : Mm} (h : SRr M) : M 43 3 = 46 := h.at 47 rfl (by decide)
theorem qr_26_5 {M : Mm} (h : SRr M) : M 26 5 = 47 := h.at 48 rfl (by decide)
theorem qr_47_0 {M : Mm} (h : SRr M) : M 47 0 = 48 := h.at 49 rfl (by decide)
theorem qr_47_1 {M : Mm} (h : SRr M) : M 47 1 = 49 := h.at 50 rfl (by decide)
theorem qr_47_3 {M : Mm} (h : SRr M) : M 47 3 = 50 := h.at 51 rfl (by decide)
theorem qr_51_0 {M : Mm} (h : SRr M) : M 51 0 = 25 := h.at 52 rfl (by decide)
theorem qr_52_0 {M : Mm} (h : SRr M) : M 52 0 = 51 := h.at 53 rfl (by decide)
theorem qr_52_1 {M : Mm} (h : SRr M) : M 52 1 = 53 := h.at 54 rfl (by decide)
theorem qr_52_2 {M : Mm} (h : SRr M) : M 52 2 = 54 := h.at 55 rfl (by decide)
theorem qr_52_4 {M : Mm} (h : SRr M) : M 52 4 = 55 := h.at 56 rfl (by decide)
theorem qr_52_6 {M : Mm} (h : SRr M) : M 52 6 = 56 := h.at 57 rfl (by decide)
theorem qr_52_7 {M : Mm} (h : SRr M) : M 52 7 = 57 := h.at 58 rfl (by decide)
theorem qr_52_8 {M : Mm} (h : SRr M) : M 52 8 = 58 := h.at 59 rfl (by decide)
theorem qr_52_9 {M : Mm} (h : SRr M) : M 52 9 = 59 := h.at 60 rfl (by decide)
theorem isT.q0 {T : Nat} {M : Mm} (h : isT T) (hR : SRr M) : M T 0 = ((T + 1 : Nat) : Int) := by
  rcases h with rfl | rfl | rfl | rfl | rfl | rfl
  · exact qr_27_0 hR
  · exact qr_31_0 hR
  · exact qr_35_0 hR
  · exact qr_39_0 hR
  · exact qr_43_0 hR
  · exact qr_47_0 hR
theorem isT.q1 {T : Nat} {M : Mm} (h : isT T) (hR : SRr M) : M T 1 = ((T + 2 : Nat) : Int) := by
  rcases h with rfl | rfl | rfl | rfl | rfl | rfl
  · exact qr_27_1 hR
  · exact qr_31_1 hR
  · exact qr_35_1 hR
  · exact qr_39_1 hR
  · exact qr_43_1 hR
  · exact qr_47_1 hR
theorem isT.q3 {T : Nat} {M : Mm} (h : isT T) (hR : SRr M) : M T 3 = ((T + 3 : Nat) : Int) := by
  rcases h with rfl | rfl | rfl | rfl | rfl | rfl
  · exact qr_27_3 hR
  · exact qr_31_3 hR
  · exact qr_35_3 hR
  · exact qr_39_3 hR
  · exact qr_43_3 hR
  · exact qr_47_3 hR
theorem txt_atr {M : Mm} (hR : SRr M) {t : Nat} (h : t < 6) : ∃ T, isT T ∧ T = 27 + 4 * t ∧ M 26 t = (T : Int) := by
  refine ⟨27 + 4 * t, ?_, rfl, ?_⟩
  · unfold isT; omega
  · match t, h with
    | 0, _ => exact qr_26_0 hR
    | 1, _ => exact qr_26_1 hR
    | 2, _ => exact qr_26_2 hR
    | 3, _ => exact qr_26_3 hR
    | 4, _ => exact qr_26_4 hR
    | 5, _ => exact qr_26_5 hR
