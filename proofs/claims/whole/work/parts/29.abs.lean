/-! ===== what a line is, apart from where it is kept ===== -/
/-- scalars: 0 minute, 1 rule, 2 size, 3 length; rows: 0 kind, 1 number, 2 likes, 3 gifts, 4 served, 5 line -/
abbrev Ls : Type := (Nat → Int) × Mm
def Rc (M : Mm) (L : Nat) (A : Ls) : Prop := M L 0 = A.1 0 ∧ M L 1 = A.1 1 ∧ M L 2 = A.1 2 ∧ M L 3 = A.1 3 ∧ (∀ r i : Nat, r < 5 → (i : Int) < A.1 2 → M (L + 1 + r) i = A.2 r i) ∧ ∀ p : Nat, (p : Int) < A.1 3 → M (L + 6) p = A.2 5 p
def Wf (A : Ls) : Prop := 0 ≤ A.1 2 ∧ A.1 2 ≤ 5 ∧ 0 ≤ A.1 3 ∧ A.1 3 ≤ A.1 2 ∧ (∀ p : Nat, (p : Int) < A.1 3 → 0 ≤ A.2 5 p ∧ A.2 5 p < A.1 2) ∧ (∀ p q : Nat, p < q → (q : Int) < A.1 3 → A.2 5 p ≠ A.2 5 q) ∧ ∀ i : Nat, (i : Int) < A.1 2 → 0 ≤ A.2 0 i ∧ A.2 0 i ≤ 5
/-- the first of n places from p on at which f is x; -1 -/
def fst_ (f : Nat → Int) (x : Int) : Nat → Nat → Int
  | 0, _ => -1
  | n + 1, p => if f p = x then (p : Int) else fst_ f x n (p + 1)
theorem fst_cong {f h : Nat → Int} {x : Int} : ∀ (n p : Nat), (∀ q, p ≤ q → q < p + n → f q = h q) → fst_ f x n p = fst_ h x n p
  | 0, _, _ => rfl
  | n + 1, p, e => by
    unfold fst_
    rw [e p (by omega) (by omega), fst_cong n (p + 1) (fun q a b => e q (by omega) (by omega))]
theorem fst_r {f : Nat → Int} {x : Int} : ∀ (n p : Nat), fst_ f x n p = -1 ∨ ∃ q, p ≤ q ∧ q < p + n ∧ fst_ f x n p = (q : Int) ∧ f q = x
  | 0, _ => Or.inl rfl
  | n + 1, p => by
    unfold fst_
    by_cases h : f p = x
    · rw [if_pos h]
      exact Or.inr ⟨p, by omega, by omega, rfl, h⟩
    · rw [if_neg h]
      rcases fst_r (f := f) (x := x) n (p + 1) with e | ⟨q, a, b, e, c⟩
      · exact Or.inl e
      · exact Or.inr ⟨q, by omega, by omega, e, c⟩
theorem fst_no {f : Nat → Int} {x : Int} : ∀ (n p : Nat), fst_ f x n p = -1 → ∀ q, p ≤ q → q < p + n → f q ≠ x
  | 0, _, _, q, a, b => by omega
  | n + 1, p, e, q, a, b => by
    unfold fst_ at e
    by_cases h : f p = x
    · rw [if_pos h] at e; omega
    · rw [if_neg h] at e
      by_cases hq : q = p
      · subst hq; exact h
      · exact fst_no n (p + 1) e q (by omega) (by omega)
/-- how many of the first n LIKE x -/
def lkr (f : Nat → Int) (x : Int) : Nat → Int
  | 0 => 0
  | n + 1 => lkr f x n + bnd (shr (f n) x) 1
theorem bnd1 (x : Int) : bnd x 1 = 0 ∨ bnd x 1 = 1 := by
  unfold bnd
  have h : Int32.ofInt x &&& Int32.ofInt 1 = 0 ∨ Int32.ofInt x &&& Int32.ofInt 1 = 1 := by
    obtain ⟨j, hj, e⟩ := pk_andE (Int32.ofInt x) (m := Int32.ofInt 1) 1 (by decide)
    rw [e]
    rcases (show j = 0 ∨ j = 1 by omega) with rfl | rfl
    · exact Or.inl (by decide)
    · exact Or.inr (by decide)
  rcases h with h | h <;> rw [h]
  · exact Or.inl (by decide)
  · exact Or.inr (by decide)
theorem lkr_r (f : Nat → Int) (x : Int) : ∀ n : Nat, 0 ≤ lkr f x n ∧ lkr f x n ≤ n
  | 0 => ⟨by simp [lkr], by simp [lkr]⟩
  | n + 1 => by
    have h1 := lkr_r f x n
    have h2 := bnd1 (shr (f n) x)
    unfold lkr
    omega
theorem lkr_cong {f h : Nat → Int} {x : Int} : ∀ n : Nat, (∀ q, q < n → f q = h q) → lkr f x n = lkr h x n
  | 0, _ => rfl
  | n + 1, e => by
    unfold lkr
    rw [lkr_cong n (fun q a => e q (by omega)), e n (by omega)]
/-- cells that a call of those methods may change -/
def Fr (V : Nat → Nat → Prop) (M M' : Mm) : Prop := ∀ i j, ¬ V i j → M' i j = M i j
theorem Fr.rf {V : Nat → Nat → Prop} {M : Mm} : Fr V M M := fun _ _ _ => rfl
theorem Fr.tr {V : Nat → Nat → Prop} {M M1 M2 : Mm} (h : Fr V M M1) (h2 : Fr V M1 M2) : Fr V M M2 := fun i j v => (h2 i j v).trans (h i j v)
theorem Fr.mono {V V' : Nat → Nat → Prop} {M M' : Mm} (h : Fr V M M') (hv : ∀ i j, V i j → V' i j) : Fr V' M M' := fun i j v => h i j (fun z => v (hv i j z))
theorem Fr.put {V : Nat → Nat → Prop} {M M' : Mm} {i j : Nat} {v : Int} (h : Fr V M M') (hv : V i j) : Fr V M (mu M' i j v) := by
  intro a b nv
  show (if a = i then (if b = j then v else M' a b) else M' a b) = M a b
  split
  · split
    · rename_i e1 e2
      subst e1; subst e2
      exact absurd hv nv
    · exact h a b nv
  · exact h a b nv
