/-! ===== rules of the plain machine: locals, fields, rows ===== -/
def ls1 : List Wd → Nat → Wd → List Wd
  | [], _, _ => []
  | _ :: r, 0, w => w :: r
  | x :: r, i + 1, w => (if i = 0 ∧ x.1 = 1 then (9, 0) else x) :: ls1 r i w
def ls2 : List Wd → Nat → Wd → List Wd
  | [], _, _ => []
  | _ :: r, 0, w => w :: ls1 r 0 (9, 0)
  | x :: r, i + 1, w => (if i = 0 ∧ x.1 = 1 then (9, 0) else x) :: ls2 r i w
theorem ls1_len : ∀ (loc : List Wd) (i : Nat) (w : Wd), (ls1 loc i w).length = loc.length
  | [], _, _ => rfl
  | _ :: _, 0, _ => rfl
  | _ :: r, i + 1, w => by simp [ls1, ls1_len r i w]
theorem ls2_len : ∀ (loc : List Wd) (i : Nat) (w : Wd), (ls2 loc i w).length = loc.length
  | [], _, _ => rfl
  | _ :: r, 0, w => by simp [ls2, ls1_len r 0 (9, 0)]
  | _ :: r, i + 1, w => by simp [ls2, ls2_len r i w]
theorem ls1_at : ∀ (loc : List Wd) (i : Nat) (w : Wd) (j : Nat) (v : Wd), (ls1 loc i w)[j]? = some v → v.1 < 3 → (j = i ∧ v = w) ∨ (j ≠ i ∧ loc[j]? = some v ∧ ¬ (j + 1 = i ∧ v.1 = 1))
  | [], _, _, j, v, h, _ => by simp [ls1] at h
  | x :: r, 0, w, 0, v, h, _ => by simp [ls1] at h; exact Or.inl ⟨rfl, h.symm⟩
  | x :: r, 0, w, j + 1, v, h, _ => by
    simp [ls1] at h
    exact Or.inr ⟨by omega, by simpa using h, by omega⟩
  | x :: r, i + 1, w, 0, v, h, hv => by
    simp only [ls1, List.getElem?_cons_zero, Option.some.injEq] at h
    by_cases hc : i = 0 ∧ x.1 = 1
    · rw [if_pos hc] at h; rw [← h] at hv; simp at hv
    · rw [if_neg hc] at h
      subst h
      exact Or.inr ⟨by omega, rfl, fun q => hc ⟨by omega, q.2⟩⟩
  | x :: r, i + 1, w, j + 1, v, h, hv => by
    simp only [ls1, List.getElem?_cons_succ] at h
    rcases ls1_at r i w j v h hv with ⟨h1, h2⟩ | ⟨h1, h2, h3⟩
    · exact Or.inl ⟨by omega, h2⟩
    · exact Or.inr ⟨by omega, by simpa using h2, by omega⟩
theorem ls2_at : ∀ (loc : List Wd) (i : Nat) (w : Wd) (j : Nat) (v : Wd), (ls2 loc i w)[j]? = some v → v.1 < 3 → (j = i ∧ v = w) ∨ (j ≠ i ∧ j ≠ i + 1 ∧ loc[j]? = some v ∧ ¬ (j + 1 = i ∧ v.1 = 1))
  | [], _, _, j, v, h, _ => by simp [ls2] at h
  | x :: r, 0, w, 0, v, h, _ => by simp [ls2] at h; exact Or.inl ⟨rfl, h.symm⟩
  | x :: r, 0, w, j + 1, v, h, hv => by
    simp only [ls2, List.getElem?_cons_succ] at h
    rcases ls1_at r 0 (9, 0) j v h hv with ⟨h1, h2⟩ | ⟨h1, h2, h3⟩
    · rw [h2] at hv; simp at hv
    · exact Or.inr ⟨by omega, by omega, by simpa using h2, by omega⟩
  | x :: r, i + 1, w, 0, v, h, hv => by
    simp only [ls2, List.getElem?_cons_zero, Option.some.injEq] at h
    by_cases hc : i = 0 ∧ x.1 = 1
    · rw [if_pos hc] at h; rw [← h] at hv; simp at hv
    · rw [if_neg hc] at h
      subst h
      exact Or.inr ⟨by omega, by omega, rfl, fun q => hc ⟨by omega, q.2⟩⟩
  | x :: r, i + 1, w, j + 1, v, h, hv => by
    simp only [ls2, List.getElem?_cons_succ] at h
    rcases ls2_at r i w j v h hv with ⟨h1, h2⟩ | ⟨h1, h2, h3, h4⟩
    · exact Or.inl ⟨by omega, h2⟩
    · exact Or.inr ⟨by omega, by omega, by simpa using h3, by omega⟩
theorem ls1_RS : ∀ (loc : List Wd) (i : Nat) (w : Wd), RS loc → wr w → RS (ls1 loc i w)
  | [], _, _, h, _ => h
  | _ :: _, 0, _, h, hw => RS.cons hw h.tl
  | x :: r, i + 1, w, h, hw => by
    refine RS.cons ?_ (ls1_RS r i w h.tl hw)
    split
    · trivial
    · exact h.hd
theorem ls2_RS : ∀ (loc : List Wd) (i : Nat) (w : Wd), RS loc → wr w → RS (ls2 loc i w)
  | [], _, _, h, _ => h
  | _ :: r, 0, _, h, hw => RS.cons hw (ls1_RS r 0 (9, 0) h.tl trivial)
  | x :: r, i + 1, w, h, hw => by
    refine RS.cons ?_ (ls2_RS r i w h.tl hw)
    split
    · trivial
    · exact h.hd
def lvs (g : Gw) (loc : List Wd) : List (Nat × Value) := (List.range loc.length).filterMap (fun i => match loc[i]? with
  | some w => if w.1 < 3 then some (i, wv g w) else none
  | none => none)
theorem lvs_in {g : Gw} {loc : List Wd} {i : Nat} {w : Wd} (h : loc[i]? = some w) (hw : w.1 < 3) : (i, wv g w) ∈ lvs g loc := by
  refine List.mem_filterMap.mpr ⟨i, List.mem_range.mpr (List.getElem?_eq_some_iff.mp h).1, ?_⟩
  simp [h, hw]
theorem lvs_of {g : Gw} {loc : List Wd} {q : Nat × Value} (h : q ∈ lvs g loc) : ∃ w : Wd, loc[q.1]? = some w ∧ w.1 < 3 ∧ q.2 = wv g w := by
  obtain ⟨i, hi, e⟩ := List.mem_filterMap.mp h
  cases hl : loc[i]? with
  | none => simp [hl] at e
  | some w =>
    simp only [hl] at e
    by_cases hw : w.1 < 3
    · rw [if_pos hw] at e
      cases e
      exact ⟨w, hl, hw, rfl⟩
    · rw [if_neg hw] at e
      cases e
theorem LR.has {g : Gw} {ls : Array Slot} {loc : List Wd} (h : LR g ls loc) : lv_has ls loc.length (lvs g loc) := ⟨h.1, h.2.1, fun q hq => by
  obtain ⟨w, h1, h2, h3⟩ := lvs_of hq
  rw [h3]
  exact h.2.2 q.1 w h1 h2⟩
theorem wv_c1 {g : Gw} {w : Wd} (h : w.1 < 3) (h1 : w.1 ≠ 1) : (wv g w).category = 1 := by
  refine wv_cat ?_
  omega
theorem LR.set1 {g : Gw} {ls' : Array Slot} {loc : List Wd} {i : Nat} {w : Wd} (h : lv_has ls' loc.length ((i, wv g w) :: (lvs g loc).filter (fun q => !(q.1 == i) && !(q.1 + 1 == i && q.2.category == 2)))) : LR g ls' (ls1 loc i w) := by
  refine ⟨by rw [ls1_len]; exact h.1, h.2.1, fun j v hj hv => ?_⟩
  rcases ls1_at loc i w j v hj hv with ⟨h1, h2⟩ | ⟨h1, h2, h3⟩
  · subst h1; subst h2
    exact h.2.2 _ List.mem_cons_self
  · refine h.2.2 (j, wv g v) (List.mem_cons_of_mem _ (List.mem_filter.mpr ⟨lvs_in h2 hv, ?_⟩))
    have hcat : ¬ (j + 1 = i ∧ (wv g v).category = 2) := fun q => by
      by_cases e : v.1 = 1
      · exact h3 ⟨q.1, e⟩
      · have := wv_c1 (g := g) hv e
        omega
    simp only [Bool.and_eq_true, Bool.not_eq_true', beq_eq_false_iff_ne, ne_eq, Bool.and_eq_false_iff]
    refine ⟨h1, ?_⟩
    by_cases e : j + 1 = i
    · exact Or.inr (fun q => hcat ⟨e, q⟩)
    · exact Or.inl e
theorem LR.set2 {g : Gw} {ls' : Array Slot} {loc : List Wd} {i : Nat} {w : Wd} (h : lv_has ls' loc.length ((i, wv g w) :: (lvs g loc).filter (fun q => !(q.1 == i) && (!(q.1 == i + 1) && !(q.1 + 1 == i && q.2.category == 2))))) : LR g ls' (ls2 loc i w) := by
  refine ⟨by rw [ls2_len]; exact h.1, h.2.1, fun j v hj hv => ?_⟩
  rcases ls2_at loc i w j v hj hv with ⟨h1, h2⟩ | ⟨h1, h1', h2, h3⟩
  · subst h1; subst h2
    exact h.2.2 _ List.mem_cons_self
  · refine h.2.2 (j, wv g v) (List.mem_cons_of_mem _ (List.mem_filter.mpr ⟨lvs_in h2 hv, ?_⟩))
    have hcat : ¬ (j + 1 = i ∧ (wv g v).category = 2) := fun q => by
      by_cases e : v.1 = 1
      · exact h3 ⟨q.1, e⟩
      · have := wv_c1 (g := g) hv e
        omega
    simp only [Bool.and_eq_true, Bool.not_eq_true', beq_eq_false_iff_ne, ne_eq, Bool.and_eq_false_iff]
    refine ⟨h1, h1', ?_⟩
    by_cases e : j + 1 = i
    · exact Or.inr (fun q => hcat ⟨e, q⟩)
    · exact Or.inl e
section WPB
variable {l : Launch} {g : Gw} {d a b n : Nat} {μ : Md} {pc : Nat} {st loc loc' : List Wd} {M : Mm} {Q : Option Wd → Mm → Prop}
theorem wp_istore_n {f : Fin 4} {i : Nat} {x : Int} (hd : decode μ.2.1 pc = .ok (.istore_n f, 1)) (hi : (f : Nat) = i) (hl0 : i < loc.length) (he : ls1 loc i (0, x) = loc') (k : Wp l g d a b n μ (pc + 1) st loc' M Q) : Wp l g d a b n μ pc ((0, x) :: st) loc M Q := by
  intro p e s m args below meth c R H locs cells slots ls F hm hK hC hS hP hr hc hs hl h1 h2 hf
  refine lv_istore_n hm.1 hm.2.1 hd hi hl.has hl0 rfl (fun ls' hl' => ?_)
  exact k p e s m args below meth c R H locs cells slots ls' F hm hK hC hS hP hr hc hs (he ▸ LR.set1 (w := (0, x)) hl') h1.tl (he ▸ ls1_RS loc i (0, x) h2 h1.hd) hf
theorem wp_istore {i : Nat} {x : Int} (hd : decode μ.2.1 pc = .ok (.istore i, 2)) (hl0 : i < loc.length) (he : ls1 loc i (0, x) = loc') (k : Wp l g d a b n μ (pc + 2) st loc' M Q) : Wp l g d a b n μ pc ((0, x) :: st) loc M Q := by
  intro p e s m args below meth c R H locs cells slots ls F hm hK hC hS hP hr hc hs hl h1 h2 hf
  refine lv_istore hm.1 hm.2.1 hd hl.has hl0 rfl (fun ls' hl' => ?_)
  exact k p e s m args below meth c R H locs cells slots ls' F hm hK hC hS hP hr hc hs (he ▸ LR.set1 (w := (0, x)) hl') h1.tl (he ▸ ls1_RS loc i (0, x) h2 h1.hd) hf
theorem wp_lstore_n {f : Fin 4} {i : Nat} {x : Int} (hd : decode μ.2.1 pc = .ok (.lstore_n f, 1)) (hi : (f : Nat) = i) (hl0 : i + 1 < loc.length) (he : ls2 loc i (1, x) = loc') (k : Wp l g d a b n μ (pc + 1) st loc' M Q) : Wp l g d a b n μ pc ((1, x) :: st) loc M Q := by
  intro p e s m args below meth c R H locs cells slots ls F hm hK hC hS hP hr hc hs hl h1 h2 hf
  refine lv_lstore_n hm.1 hm.2.1 hd hi hl.has hl0 rfl (fun ls' hl' => ?_)
  exact k p e s m args below meth c R H locs cells slots ls' F hm hK hC hS hP hr hc hs (he ▸ LR.set2 (w := (1, x)) hl') h1.tl (he ▸ ls2_RS loc i (1, x) h2 h1.hd) hf
theorem wp_lstore {i : Nat} {x : Int} (hd : decode μ.2.1 pc = .ok (.lstore i, 2)) (hl0 : i + 1 < loc.length) (he : ls2 loc i (1, x) = loc') (k : Wp l g d a b n μ (pc + 2) st loc' M Q) : Wp l g d a b n μ pc ((1, x) :: st) loc M Q := by
  intro p e s m args below meth c R H locs cells slots ls F hm hK hC hS hP hr hc hs hl h1 h2 hf
  refine lv_lstore hm.1 hm.2.1 hd hl.has hl0 rfl (fun ls' hl' => ?_)
  exact k p e s m args below meth c R H locs cells slots ls' F hm hK hC hS hP hr hc hs (he ▸ LR.set2 (w := (1, x)) hl') h1.tl (he ▸ ls2_RS loc i (1, x) h2 h1.hd) hf
theorem wp_astore_n {f : Fin 4} {i : Nat} {x : Int} (hd : decode μ.2.1 pc = .ok (.astore_n f, 1)) (hi : (f : Nat) = i) (hl0 : i < loc.length) (he : ls1 loc i (2, x) = loc') (k : Wp l g d a b n μ (pc + 1) st loc' M Q) : Wp l g d a b n μ pc ((2, x) :: st) loc M Q := by
  intro p e s m args below meth c R H locs cells slots ls F hm hK hC hS hP hr hc hs hl h1 h2 hf
  have hk : ∀ ls' : Array Slot, lv_has ls' loc.length ((i, rv g x) :: (lvs g loc).filter (fun q => !(q.1 == i) && !(q.1 + 1 == i && q.2.category == 2))) → W p l e R s m args below meth c H locs cells slots F (F0 m (pc + 1) ls' (st.map (wv g))) := fun ls' hl' =>
    k p e s m args below meth c R H locs cells slots ls' F hm hK hC hS hP hr hc hs (he ▸ LR.set1 (w := (2, x)) hl') h1.tl (he ▸ ls1_RS loc i (2, x) h2 h1.hd) hf
  show W _ _ _ _ _ _ _ _ _ _ _ _ _ _ _ (F0 _ _ _ (rv g x :: _))
  unfold rv at hk ⊢
  by_cases hx : x = 0
  · rw [if_pos hx] at hk ⊢
    exact lv_astore_nN hm.1 hm.2.1 hd hi hl.has hl0 rfl hk
  · rw [if_neg hx] at hk ⊢
    exact lv_astore_n hm.1 hm.2.1 hd hi hl.has hl0 rfl hk
theorem wp_astore {i : Nat} {x : Int} (hd : decode μ.2.1 pc = .ok (.astore i, 2)) (hl0 : i < loc.length) (he : ls1 loc i (2, x) = loc') (k : Wp l g d a b n μ (pc + 2) st loc' M Q) : Wp l g d a b n μ pc ((2, x) :: st) loc M Q := by
  intro p e s m args below meth c R H locs cells slots ls F hm hK hC hS hP hr hc hs hl h1 h2 hf
  have hk : ∀ ls' : Array Slot, lv_has ls' loc.length ((i, rv g x) :: (lvs g loc).filter (fun q => !(q.1 == i) && !(q.1 + 1 == i && q.2.category == 2))) → W p l e R s m args below meth c H locs cells slots F (F0 m (pc + 2) ls' (st.map (wv g))) := fun ls' hl' =>
    k p e s m args below meth c R H locs cells slots ls' F hm hK hC hS hP hr hc hs (he ▸ LR.set1 (w := (2, x)) hl') h1.tl (he ▸ ls1_RS loc i (2, x) h2 h1.hd) hf
  show W _ _ _ _ _ _ _ _ _ _ _ _ _ _ _ (F0 _ _ _ (rv g x :: _))
  unfold rv at hk ⊢
  by_cases hx : x = 0
  · rw [if_pos hx] at hk ⊢
    exact lv_astoreN hm.1 hm.2.1 hd hl.has hl0 rfl hk
  · rw [if_neg hx] at hk ⊢
    exact lv_astore hm.1 hm.2.1 hd hl.has hl0 rfl hk
theorem wp_iinc {i : Nat} {v x : Int} (hd : decode μ.2.1 pc = .ok (.iinc i v, 3)) (hl0 : loc[i]? = some (0, x)) (hr : -2147483648 ≤ x + v ∧ x + v < 2147483648) (he : ls1 loc i (0, x + v) = loc') (k : Wp l g d a b n μ (pc + 3) st loc' M Q) : Wp l g d a b n μ pc st loc M Q := by
  intro p e s m args below meth c R H locs cells slots ls F hm hK hC hS hP hr0 hc hs hl h1 h2 hf
  have hi : i < loc.length := (List.getElem?_eq_some_iff.mp hl0).1
  obtain ⟨j, hj⟩ := List.getElem?_of_mem (lvs_in (g := g) hl0 (by decide : 0 < 3))
  refine lv_iinc (v := Int32.ofInt (x + v)) hm.1 hm.2.1 hd hl.has hj (by rw [Int32.ofInt_add]) hi rfl (fun ls' hl' => ?_)
  exact k p e s m args below meth c R H locs cells slots ls' F hm hK hC hS hP hr0 hc hs (he ▸ LR.set1 (w := (0, x + v)) hl') h1 (he ▸ ls1_RS loc i (0, x + v) h2 (wr_i hr)) hf
end WPB
/-! fields -/
theorem clT_at : ∀ c, c < 9 → vwCl[c]? = some (clT c) := by
  intro c hc
  match c, hc with
  | 0, _ => rfl
  | 1, _ => rfl
  | 2, _ => rfl
  | 3, _ => rfl
  | 4, _ => rfl
  | 5, _ => rfl
  | 6, _ => rfl
  | 7, _ => rfl
  | 8, _ => rfl
  | c + 9, h => omega
theorem kd_ok : ∀ i, i ≤ 90 → (kd i).1 < 9 → (kd i).2 = (clT (kd i).1).2.2 := by decide +kernel
theorem kd_lt : ∀ i, i ≤ 90 → 1 ≤ i → (kd i).1 < 14 := by decide +kernel
theorem tyOf_ok : ∀ c, c < 9 → ∀ k, k < (clT c).2.2 → parseFieldDescriptor ((clT c).2.1 k).2.2.1 = some (tyOf c k) := by
  intro c hc
  match c, hc with
  | 0, _ => exact tyX0_ok
  | 1, _ => exact tyX1_ok
  | 2, _ => exact tyX2_ok
  | 3, _ => exact tyX3_ok
  | 4, _ => exact tyX4_ok
  | 5, _ => exact tyX5_ok
  | 6, _ => exact tyX6_ok
  | 7, _ => exact tyX7_ok
  | 8, _ => exact tyX8_ok
  | c + 9, h => omega
theorem nm_ok : ∀ c, c < 9 → ∀ i, i < (clT c).2.2 → ∀ j, j < (clT c).2.2 → i ≠ j → ((clT c).2.1 i).2.1 ≠ ((clT c).2.1 j).2.1 := by
  intro c hc
  match c, hc with
  | 0, _ => exact nmX0
  | 1, _ => exact nmX1
  | 2, _ => exact nmX2
  | 3, _ => exact nmX3
  | 4, _ => exact nmX4
  | 5, _ => exact nmX5
  | 6, _ => exact nmX6
  | 7, _ => exact nmX7
  | 8, _ => exact nmX8
  | c + 9, h => omega
theorem in_cl : ∀ c, c < 9 → ∀ w ∈ u_ws (clT c).1 (clT c).2.1 (clT c).2.2, w ∈ TG := by decide +kernel
/-- a field by its number, named through a class's pool -/
def FL (own : String) (idx c k : Nat) : Prop := Cond.fieldLink own idx (clT c).1 ((clT c).2.1 k).2.1 ((clT c).2.1 k).2.2.1 ∈ TG ∧ k < (clT c).2.2 ∧ c < 9 ∧ ((clT c).2.1 k).1 = (clT c).1
theorem adg_lt {g : Gw} {i : Nat} (h : i < 1000) : adg g i = gB g + i := if_pos h
theorem rv_pos {g : Gw} {i : Nat} (h : 1 ≤ i) : rv g (i : Int) = .ref (adg g i) := by
  unfold rv
  rw [if_neg (by omega)]
  rfl
theorem mu_self (M : Mm) (i j : Nat) (v : Int) : mu M i j v i j = v := by simp [mu]
theorem mu_ne (M : Mm) {i i' : Nat} (j : Nat) (v : Int) (h : i' ≠ i) (k : Nat) : mu M i j v i' k = M i' k := by simp [mu, h]
theorem mu_nj (M : Mm) (i : Nat) {j j' : Nat} (v : Int) (h : j' ≠ j) : mu M i j v i j' = M i j' := by simp [mu, h]
theorem cellOK.kept {g : Gw} {M M' : Mm} {i : Nat} {H H' : Heap} (h : cellOK g M i H) (hq : H'[adg g i]? = H[adg g i]?) (hM : ∀ j, M' i j = M i j) : cellOK g M' i H' := by
  have e : M' i = M i := funext hM
  unfold cellOK at h ⊢
  rw [e]
  by_cases hc : (kd i).1 < 9
  · rw [if_pos hc] at h ⊢
    exact h.kept hq
  · rw [if_neg hc] at h ⊢
    rw [hq]; exact h
theorem Pic.upd {g : Gw} {n : Nat} {M : Mm} {H H' : Heap} (hP : Pic g n M H) {i j : Nat} {v : Int} (hi : 1 ≤ i ∧ i ≤ n) (hv : -2147483648 ≤ v ∧ v < 2147483648) (hz : H'.size = H.size) (ho : ∀ q, q ≠ adg g i → H'[q]? = H[q]?) (hc : cellOK g (mu M i j v) i H') : Pic g n (mu M i j v) H' := by
  obtain ⟨h1, h2, h3, h4, h5⟩ := hP
  refine ⟨hz.trans h1, fun i' a1 a2 => ?_, fun i' j' hi' => ?_, fun i' j' => ?_, h5⟩
  · by_cases e : i' = i
    · subst e; exact hc
    · refine (h2 i' a1 a2).kept (ho _ ?_) (fun k => mu_ne M j v e k)
      rw [adg_lt (by omega), adg_lt (by omega)]
      omega
  · rw [mu_ne M j v (by omega) j']
    exact h3 i' j' hi'
  · unfold mu
    split
    · split
      · exact hv
      · exact h4 i' j'
    · exact h4 i' j'
theorem Pic.ob {g : Gw} {n : Nat} {M : Mm} {H : Heap} (hP : Pic g n M H) {i c N : Nat} (hi : 1 ≤ i ∧ i ≤ n) (hk : kd i = (c, N)) (hc : c < 9) : t_OB (adg g i) (g.1 c) (clT c).2.2 (g.2.1 c) H (fun k => wv g (ft c k, M i k)) := by
  have h := hP.2.1 i hi.1 hi.2
  have hN := kd_ok i (Nat.le_trans hi.2 hP.2.2.2.2) (by rw [hk]; exact hc)
  unfold cellOK at h
  rw [hk] at h hN
  rw [if_pos hc] at h
  change N = (clT c).2.2 at hN
  rw [← hN]
  exact h
theorem Pic.ar {g : Gw} {n : Nat} {M : Mm} {H : Heap} (hP : Pic g n M H) {i c N : Nat} (hi : 1 ≤ i ∧ i ≤ n) (hk : kd i = (c, N)) (hc : 9 ≤ c) : H[adg g i]? = some (arrV (g.2.2.1 (c - 10)) N (fun j => wv g (et c, M i j))) := by
  have h := hP.2.1 i hi.1 hi.2
  unfold cellOK at h
  rw [hk] at h
  rw [if_neg (by omega)] at h
  exact h
theorem fit_i (g : Gw) (v : Int) : narrow .int (wv g (0, v)) = wv g (0, v) ∧ fits .int (wv g (0, v)) = true := ⟨rfl, rfl⟩
theorem fit_l (g : Gw) (v : Int) : narrow .long (wv g (1, v)) = wv g (1, v) ∧ fits .long (wv g (1, v)) = true := ⟨rfl, rfl⟩
theorem fit_z (g : Gw) {v : Int} (h : v = 0 ∨ v = 1) : narrow .boolean (wv g (0, v)) = wv g (0, v) ∧ fits .boolean (wv g (0, v)) = true := by
  rcases h with rfl | rfl
  · show narrow .boolean (.int (Int32.ofInt 0)) = .int (Int32.ofInt 0) ∧ fits .boolean (.int (Int32.ofInt 0)) = true
    decide
  · show narrow .boolean (.int (Int32.ofInt 1)) = .int (Int32.ofInt 1) ∧ fits .boolean (.int (Int32.ofInt 1)) = true
    decide
theorem fit_a (g : Gw) {ty : FieldType} (h : (∃ n, ty = .object n) ∨ ∃ t, ty = .array t) (v : Int) : narrow ty (wv g (2, v)) = wv g (2, v) ∧ fits ty (wv g (2, v)) = true := by
  show narrow ty (rv g v) = rv g v ∧ fits ty (rv g v) = true
  unfold rv
  rcases h with ⟨n, rfl⟩ | ⟨t, rfl⟩ <;> split <;> exact ⟨rfl, rfl⟩
section WPC
variable {l : Launch} {g : Gw} {d a b n : Nat} {μ : Md} {pc : Nat} {st loc : List Wd} {M : Mm} {Q : Option Wd → Mm → Prop}
theorem wp_get (i : Nat) {x : Int} (hx : x = (i : Int)) {idx c k N t : Nat} (hf : FL μ.1.cls idx c k) (hk : kd i = (c, N)) (hi : 1 ≤ i ∧ i ≤ n) (hd : decode μ.2.1 pc = .ok (.getfield idx, 3)) (ht : ft c k = t) {v : Int} (hv : M i k = v) (kk : Wp l g d a b n μ (pc + 3) ((t, v) :: st) loc M Q) : Wp l g d a b n μ pc ((2, x) :: st) loc M Q := by
  subst hx
  subst ht
  subst hv
  refine Wp.pure (pc' := pc + 3) (st' := (ft c k, M i k) :: st) (fun h h2 hM => RS.cons ?_ h.tl) (fun hm hK hC hS hP hl h1 h2 kk => ?_) kk
  · have hM := hM i k
    cases hft : ft c k with
    | zero => exact hM
    | succ t => cases t with
      | zero => exact ⟨by omega, by omega⟩
      | succ t => trivial
  · show W _ _ _ _ _ _ _ _ _ _ _ _ _ _ _ (F0 _ _ _ (rv g (i : Int) :: _))
    rw [rv_pos hi.1]
    obtain ⟨cell, q1, q2, q3, q4⟩ := hP.ob hi hk hf.2.2.1
    obtain ⟨hS', hfc, kC, hkC, hkind⟩ := hK.1 c _ (clT_at c hf.2.2.1)
    obtain ⟨cf, kf, fi, f, hfi, hsl⟩ := hS' k hf.2.1
    refine W.getf hm.1 hm.2.1 hm.2.2.2.2.1 (hm.2.2.2.2.2.1 _ hf.1) (by rw [← hf.2.2.2]; exact hfi) (u_facts hfc hkC (u_lays hm.2.2.2.2.2.1 (in_cl c hf.2.2.1) hf.2.1) hfi).1 q1 (by rw [q3]; exact fun h => by cases h) (v := wv g (ft c k, M i k)) ?_ rfl rfl hd kk
    rw [hsl, q4 k hf.2.1]
theorem wp_put (i : Nat) {x : Int} (hx : x = (i : Int)) {idx c k N t : Nat} {v : Int} (hf : FL μ.1.cls idx c k) (hk : kd i = (c, N)) (hi : 1 ≤ i ∧ i ≤ n) (hd : decode μ.2.1 pc = .ok (.putfield idx, 3)) (ht : ft c k = t) (hfin : ((clT c).2.1 k).2.2.2 = false) (hn : narrow (tyOf c k) (wv g (t, v)) = wv g (t, v)) (hfit : fits (tyOf c k) (wv g (t, v)) = true) (hv : -2147483648 ≤ v ∧ v < 2147483648) (kk : Wp l g d a b n μ (pc + 3) st loc (mu M i k v) Q) : Wp l g d a b n μ pc ((t, v) :: (2, x) :: st) loc M Q := by
  subst hx
  subst ht
  intro p e s m args below meth cd R H locs cells slots ls F hm hK hC hS hP hr hcc hs hl h1 h2 hfi
  show W _ _ _ _ _ _ _ _ _ _ _ _ _ _ _ (F0 _ _ _ (wv g (ft c k, v) :: rv g (i : Int) :: _))
  rw [rv_pos hi.1]
  obtain ⟨cell, q1, q2, q3, q4⟩ := hP.ob hi hk hf.2.2.1
  have hts : ∀ w ∈ TG, w.before args s = true := hm.2.2.2.2.2.1
  have hap := va_apart (own := μ.1.cls) hts (in_cl c hf.2.2.1) (tyOf c) (tyOf_ok c hf.2.2.1) (nm_ok c hf.2.2.1) hK (clT_at c hf.2.2.1)
  obtain ⟨hS', hfc, kC, hkC, hkind⟩ := hK.1 c _ (clT_at c hf.2.2.1)
  obtain ⟨cf, kf, fi, f, hfd, hsl⟩ := hS' k hf.2.1
  have hlay := hts _ (in_cl c hf.2.2.1 _ (u_in_lay hf.2.1))
  unfold u_lay at hlay
  rw [if_neg (by rw [hfin]; decide)] at hlay
  have hst := (u_facts hfc hkC (u_lays hts (in_cl c hf.2.2.1) hf.2.1) hfd).1
  have h6 := u_store hfc hkC hkind hlay hfd (tyOf_ok c hf.2.2.1 k hf.2.1) hn hfit
  refine W.putK hm.1 hm.2.1 (f := f) ⟨hm.2.2.2.2.1, hts _ hf.1, ⟨_, _, _, by rw [← hf.2.2.2]; exact hfd⟩, hst⟩ (by rw [q2]; exact h6) q1 q3 (by rw [hsl]; exact k2_hasslot (q4 k hf.2.1)) rfl rfl hd fun H' e1 e2 e3 => ?_
  rw [hsl] at e1 ⊢
  have hob : t_OB (adg g i) (g.1 c) (clT c).2.2 (g.2.1 c) H' (fun j => wv g (ft c j, mu M i k v i j)) := by
    refine t_OB.to (V := updV (fun j => wv g (ft c j, M i j)) k (wv g (ft c k, v))) ⟨_, e1, q2, q3, t_set q4 hap hf.2.1 _⟩ (fun j _ => ?_)
    by_cases hj : j = k
    · subst hj; simp [updV, mu]
    · simp [updV, mu, hj]
  have hN := kd_ok i (Nat.le_trans hi.2 hP.2.2.2.2) (by rw [hk]; exact hf.2.2.1)
  rw [hk] at hN
  change N = (clT c).2.2 at hN
  refine kk p e s m args below meth cd R H' _ cells slots ls F hm hK hC (hS.put e2 e3 (by show gB g < adg g i; rw [adg_lt (by have := hP.2.2.2.2; omega)]; omega)) (hP.upd hi hv e2 e3 ?_) hr hcc hs hl h1.tl.tl h2 hfi
  unfold cellOK
  rw [hk, if_pos hf.2.2.1, hN]
  exact hob
theorem wp_putF (i : Nat) {x : Int} (hx : x = (i : Int)) {idx c k N t : Nat} {v : Int} (hf : FL μ.1.cls idx c k) (hk : kd i = (c, N)) (hi : 1 ≤ i ∧ i ≤ n) (hd : decode μ.2.1 pc = .ok (.putfield idx, 3)) (ht : ft c k = t) (hfin : ((clT c).2.1 k).2.2.2 = true) (hin : μ.1.name = "<init>") (hown : (clT c).1 = μ.1.cls) (hn : narrow (tyOf c k) (wv g (t, v)) = wv g (t, v)) (hfit : fits (tyOf c k) (wv g (t, v)) = true) (hv : -2147483648 ≤ v ∧ v < 2147483648) (kk : Wp l g d a b n μ (pc + 3) st loc (mu M i k v) Q) : Wp l g d a b n μ pc ((t, v) :: (2, x) :: st) loc M Q := by
  subst hx
  subst ht
  intro p e s m args below meth cd R H locs cells slots ls F hm hK hC hS hP hr hcc hs hl h1 h2 hfi
  show W _ _ _ _ _ _ _ _ _ _ _ _ _ _ _ (F0 _ _ _ (wv g (ft c k, v) :: rv g (i : Int) :: _))
  rw [rv_pos hi.1]
  obtain ⟨cell, q1, q2, q3, q4⟩ := hP.ob hi hk hf.2.2.1
  have hts : ∀ w ∈ TG, w.before args s = true := hm.2.2.2.2.2.1
  have hap := va_apart (own := μ.1.cls) hts (in_cl c hf.2.2.1) (tyOf c) (tyOf_ok c hf.2.2.1) (nm_ok c hf.2.2.1) hK (clT_at c hf.2.2.1)
  obtain ⟨hS', hfc, kC, hkC, hkind⟩ := hK.1 c _ (clT_at c hf.2.2.1)
  obtain ⟨cf, kf, fi, f, hfd, hsl⟩ := hS' k hf.2.1
  have hlay := hts _ (in_cl c hf.2.2.1 _ (u_in_lay hf.2.1))
  unfold u_lay at hlay
  rw [if_pos hfin] at hlay
  have hst := (u_facts hfc hkC (u_lays hts (in_cl c hf.2.2.1) hf.2.1) hfd).1
  have hcf : m.cls = cf := by
    obtain ⟨_, _, c', _, _, _, -, -, hf', -, -, -, hown2, -⟩ := Cond.laysFinal_spec hlay
    have e1 : c' = cf := by have := hfd.symm.trans hf'; simp at this; exact this.1.symm
    rw [hf.2.2.2, hown] at hown2
    rw [← e1]; exact Option.some.inj (hm.2.2.2.2.1.symm.trans hown2)
  have h6 := u_fits hfc hkC hkind (Or.inr hlay) hfd (tyOf_ok c hf.2.2.1 k hf.2.1) hn hfit
  refine W.putFinK hm.1 hm.2.1 hm.2.2.2.2.1 (hts _ hf.1) (by rw [← hf.2.2.2]; exact hfd) hst hcf (hm.2.2.2.2.2.2.2 hin) (by rw [q2]; exact h6) q1 q3 (by rw [hsl]; exact k2_hasslot (q4 k hf.2.1)) rfl rfl hd fun H' e1 e2 e3 => ?_
  rw [hsl] at e1 ⊢
  have hob : t_OB (adg g i) (g.1 c) (clT c).2.2 (g.2.1 c) H' (fun j => wv g (ft c j, mu M i k v i j)) := by
    refine t_OB.to (V := updV (fun j => wv g (ft c j, M i j)) k (wv g (ft c k, v))) ⟨_, e1, q2, q3, t_set q4 hap hf.2.1 _⟩ (fun j _ => ?_)
    by_cases hj : j = k
    · subst hj; simp [updV, mu]
    · simp [updV, mu, hj]
  have hN := kd_ok i (Nat.le_trans hi.2 hP.2.2.2.2) (by rw [hk]; exact hf.2.2.1)
  rw [hk] at hN
  change N = (clT c).2.2 at hN
  refine kk p e s m args below meth cd R H' _ cells slots ls F hm hK hC (hS.put e2 e3 (by show gB g < adg g i; rw [adg_lt (by have := hP.2.2.2.2; omega)]; omega)) (hP.upd hi hv e2 e3 ?_) hr hcc hs hl h1.tl.tl h2 hfi
  unfold cellOK
  rw [hk, if_pos hf.2.2.1, hN]
  exact hob
theorem wp_puti (i : Nat) {x : Int} (hx : x = (i : Int)) {idx c k N : Nat} {v : Int} (hf : FL μ.1.cls idx c k) (hk : kd i = (c, N)) (hi : 1 ≤ i ∧ i ≤ n) (hd : decode μ.2.1 pc = .ok (.putfield idx, 3)) (hty : tyOf c k = .int) (hfin : ((clT c).2.1 k).2.2.2 = false) (kk : Wp l g d a b n μ (pc + 3) st loc (mu M i k v) Q) : Wp l g d a b n μ pc ((0, v) :: (2, x) :: st) loc M Q :=
  Wp.know fun h _ _ _ => wp_put i hx hf hk hi hd (by unfold ft; rw [hty]; rfl) hfin (by rw [hty]; rfl) (by rw [hty]; rfl) h.hd kk
theorem wp_putz (i : Nat) {x : Int} (hx : x = (i : Int)) {idx c k N : Nat} {v : Int} (hf : FL μ.1.cls idx c k) (hk : kd i = (c, N)) (hi : 1 ≤ i ∧ i ≤ n) (hd : decode μ.2.1 pc = .ok (.putfield idx, 3)) (hty : tyOf c k = .boolean) (hfin : ((clT c).2.1 k).2.2.2 = false) (hv : v = 0 ∨ v = 1) (kk : Wp l g d a b n μ (pc + 3) st loc (mu M i k v) Q) : Wp l g d a b n μ pc ((0, v) :: (2, x) :: st) loc M Q :=
  Wp.know fun h _ _ _ => wp_put i hx hf hk hi hd (by unfold ft; rw [hty]; rfl) hfin (by rw [hty]; exact (fit_z g hv).1) (by rw [hty]; exact (fit_z g hv).2) h.hd kk
theorem wp_putl (i : Nat) {x : Int} (hx : x = (i : Int)) {idx c k N : Nat} {v : Int} (hf : FL μ.1.cls idx c k) (hk : kd i = (c, N)) (hi : 1 ≤ i ∧ i ≤ n) (hd : decode μ.2.1 pc = .ok (.putfield idx, 3)) (hty : tyOf c k = .long) (hfin : ((clT c).2.1 k).2.2.2 = false) (hv : -2147483648 ≤ v ∧ v < 2147483648) (kk : Wp l g d a b n μ (pc + 3) st loc (mu M i k v) Q) : Wp l g d a b n μ pc ((1, v) :: (2, x) :: st) loc M Q :=
  wp_put i hx hf hk hi hd (by unfold ft; rw [hty]; rfl) hfin (by rw [hty]; rfl) (by rw [hty]; rfl) hv kk
theorem wp_puta (i : Nat) {x : Int} (hx : x = (i : Int)) {idx c k N : Nat} {v : Int} (hf : FL μ.1.cls idx c k) (hk : kd i = (c, N)) (hi : 1 ≤ i ∧ i ≤ n) (hd : decode μ.2.1 pc = .ok (.putfield idx, 3)) (ht : ft c k = 2) (hty : (∃ n, tyOf c k = .object n) ∨ ∃ t, tyOf c k = .array t) (hfin : ((clT c).2.1 k).2.2.2 = false) (hv : -2147483648 ≤ v ∧ v < 2147483648) (kk : Wp l g d a b n μ (pc + 3) st loc (mu M i k v) Q) : Wp l g d a b n μ pc ((2, v) :: (2, x) :: st) loc M Q :=
  wp_put i hx hf hk hi hd ht hfin (fit_a g hty v).1 (fit_a g hty v).2 hv kk
theorem wp_putFa (i : Nat) {x : Int} (hx : x = (i : Int)) {idx c k N : Nat} {v : Int} (hf : FL μ.1.cls idx c k) (hk : kd i = (c, N)) (hi : 1 ≤ i ∧ i ≤ n) (hd : decode μ.2.1 pc = .ok (.putfield idx, 3)) (ht : ft c k = 2) (hty : (∃ n, tyOf c k = .object n) ∨ ∃ t, tyOf c k = .array t) (hfin : ((clT c).2.1 k).2.2.2 = true) (hin : μ.1.name = "<init>") (hown : (clT c).1 = μ.1.cls) (hv : -2147483648 ≤ v ∧ v < 2147483648) (kk : Wp l g d a b n μ (pc + 3) st loc (mu M i k v) Q) : Wp l g d a b n μ pc ((2, v) :: (2, x) :: st) loc M Q :=
  wp_putF i hx hf hk hi hd ht hfin hin hown (fit_a g hty v).1 (fit_a g hty v).2 hv kk
end WPC
