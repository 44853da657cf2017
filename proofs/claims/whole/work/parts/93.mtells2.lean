/-! ===== the model: tells, image, back ===== -/
/-- the bits from p on -/
def tpS (F : Nat → Bool) : Nat → Nat → Nat
  | 0, _ => 0
  | m + 1, q => (if F q = true then 2 ^ q else 0) + tpS F m (q + 1)
def tpC (F : Nat → Bool) : Nat → Nat → Nat
  | 0, _ => 0
  | m + 1, q => (if F q = true then 1 else 0) + tpC F m (q + 1)
theorem tpS_sum (F : Nat → Bool) : ∀ m q, tpS F m q + bsum F q = bsum F (q + m)
  | 0, q => by
    show 0 + bsum F q = bsum F q
    omega
  | m + 1, q => by
    have h := tpS_sum F m (q + 1)
    have e : bsum F (q + 1) = bsum F q + if F q = true then 2 ^ q else 0 := rfl
    show (if F q = true then 2 ^ q else 0) + tpS F m (q + 1) + bsum F q = bsum F (q + (m + 1))
    rw [show q + (m + 1) = q + 1 + m by omega, ← h, e]
    omega
theorem tpC_sum (F : Nat → Bool) : ∀ m q, tpC F m q + cntF F q = cntF F (q + m)
  | 0, q => by
    show 0 + cntF F q = cntF F q
    omega
  | m + 1, q => by
    have h := tpC_sum F m (q + 1)
    have e : cntF F (q + 1) = cntF F q + if F q = true then 1 else 0 := rfl
    show (if F q = true then 1 else 0) + tpC F m (q + 1) + cntF F q = cntF F (q + (m + 1))
    rw [show q + (m + 1) = q + 1 + m by omega, ← h, e]
    omega
theorem tpS_div (F : Nat → Bool) : ∀ m q, ∃ k, tpS F m q = 2 ^ q * k
  | 0, q => ⟨0, rfl⟩
  | m + 1, q => by
    obtain ⟨k, hk⟩ := tpS_div F m (q + 1)
    refine ⟨(if F q = true then 1 else 0) + 2 * k, ?_⟩
    show (if F q = true then 2 ^ q else 0) + tpS F m (q + 1) = _
    rw [hk, Nat.pow_succ, Nat.mul_add, Nat.mul_assoc]
    split <;> simp
theorem tpC_le (F : Nat → Bool) : ∀ m q, tpC F m q ≤ m
  | 0, _ => Nat.le_refl 0
  | m + 1, q => by
    have := tpC_le F m (q + 1)
    show (if F q = true then 1 else 0) + tpC F m (q + 1) ≤ m + 1
    split <;> omega
theorem bor_hit : ∀ q : Nat, q < 10 → ∀ k : Nat, k < 512 → bor ((2 ^ (q + 1) * k : Nat) : Int) (shl 1 (q : Int)) = ((2 ^ (q + 1) * k + 2 ^ q : Nat) : Int) := by decide +kernel
theorem bor_no : ∀ k : Nat, k < 1024 → bor (k : Int) 0 = (k : Int) := by decide +kernel
theorem tpS_hit {F : Nat → Bool} {m q : Nat} (h : q + 1 + m ≤ 10) (hF : F q = true) : bor ((tpS F m (q + 1) : Nat) : Int) (shl 1 (q : Int)) = ((tpS F (m + 1) q : Nat) : Int) := by
  obtain ⟨k, hk⟩ := tpS_div F m (q + 1)
  have hs := tpS_sum F m (q + 1)
  have hb := bsum_lt F (q + 1 + m)
  have hp : 2 ^ (q + 1 + m) ≤ 2 ^ 10 := Nat.pow_le_pow_right (by omega) h
  have h2 : 2 ^ 1 ≤ 2 ^ (q + 1) := Nat.pow_le_pow_right (by omega) (by omega)
  have hk5 : k < 512 := by
    by_cases c : k < 512
    · exact c
    · have : 2 ^ 1 * 512 ≤ 2 ^ (q + 1) * k := Nat.mul_le_mul h2 (by omega)
      omega
  have e : tpS F (m + 1) q = 2 ^ (q + 1) * k + 2 ^ q := by
    show (if F q = true then 2 ^ q else 0) + tpS F m (q + 1) = _
    rw [if_pos hF, hk]
    omega
  rw [e, hk]
  exact bor_hit q (by omega) k hk5
theorem lyA_ly {A : Ls} {w o y v : Int} : lyA (lyA A w o y) w o v = lyA A w o v := by
  unfold lyA
  split
  · show ((fun j => if j = 1 then v else if j = 1 then y else A.1 j), A.2) = ((fun j => if j = 1 then v else A.1 j), A.2)
    congr 1
    funext j
    by_cases c : j = 1
    · rw [if_pos c, if_pos c]
    · rw [if_neg c, if_neg c, if_neg c]
  · generalize (if w = 1 then 0 else if w = 2 then 1 else 4) = r
    show (A.1, mu (mu A.2 r o.toNat y) r o.toNat v) = (A.1, mu A.2 r o.toNat v)
    congr 1
    funext a b
    by_cases c : a = r
    · subst c
      by_cases c2 : b = o.toNat
      · subst c2
        rw [mu_self, mu_self]
      · rw [mu_nj _ _ _ c2, mu_nj _ _ _ c2, mu_nj _ _ _ c2]
    · rw [mu_ne _ _ _ c, mu_ne _ _ _ c, mu_ne _ _ _ c]
theorem setA_was {A : Ls} {r i : Nat} : setA A r i (A.2 r i) = A := by
  show (A.1, mu A.2 r i (A.2 r i)) = A
  have : mu A.2 r i (A.2 r i) = A.2 := by
    funext a b
    by_cases c : a = r
    · subst c
      by_cases c2 : b = i
      · subst c2
        rw [mu_self]
      · rw [mu_nj _ _ _ c2]
    · rw [mu_ne _ _ _ c]
  rw [this]
theorem setS_was {A : Ls} : setS A 1 (A.1 1) = A := by
  show ((fun j => if j = 1 then A.1 1 else A.1 j), A.2) = A
  have : (fun j => if j = 1 then A.1 1 else A.1 j) = A.1 := by
    funext j
    by_cases c : j = 1
    · rw [if_pos c, c]
    · rw [if_neg c]
  rw [this]
set_option maxRecDepth 20000 in
set_option maxHeartbeats 4000000 in
theorem lp_tlm_1  {l : Launch} {g : Gw} {d n : Nat} {Q : Option Wd → Mm → Prop} (hn : 90 ≤ n) (hd : 74 ≤ d) {E : Ev} {A : Ls} (hW : Wf A) {B : Mm} (hV : Ws B) {s N H : Nat} (hs : s < 4) (hT : B s 0 ≠ -1) (hN : (B s 1).toNat = N) {o x was last : Int} (ho : 0 ≤ o ∧ o < A.1 2) (hH : H ≤ 6) : ∀ (q : Nat) (M : Mm) (y st ct ls vv : Int) (m : Nat), q + m = H → vv = (q : Int) - 1 → M 69 3 = x → MJ M (lyA A 1 o y) E → Rms M B → st = ((tpS (fitF E (fun i => B s (2 + i)) N A 1 o) m q : Nat) : Int) → ct = ((tpC (fitF E (fun i => B s (2 + i)) N A 1 o) m q : Nat) : Int) → ls = lstF (fitF E (fun i => B s (2 + i)) N A 1 o) m q → (∀ M' y' u st' ct' ls', MJ M' (lyA A 1 o y') E → Fr VMt M M' → st' = ((tpS (fitF E (fun i => B s (2 + i)) N A 1 o) H 0 : Nat) : Int) → ct' = ((tpC (fitF E (fun i => B s (2 + i)) N A 1 o) H 0 : Nat) : Int) → ls' = lstF (fitF E (fun i => B s (2 + i)) N A 1 o) H 0 → Wp l g d 0 0 n m_X8_tells 222 [] [(2, 69), (0, (s : Int)), (0, o), (0, 1), (0, 5), (0, was), (0, last), (0, st'), (0, ct'), (0, ls'), u] M' Q) → Wp l g d 0 0 n m_X8_tells 166 [] [(2, 69), (0, (s : Int)), (0, o), (0, 1), (0, 5), (0, was), (0, last), (0, st), (0, ct), (0, ls), (0, vv)] M Q := by
  have w2 := hW.2.1
  intro q
  induction q with
  | zero =>
    intro M y st ct ls vv m hm hvv hx hI hB hst hct hls k
    refine wp_iload dX8_tells_166 rfl ?_
    refine wp_if_lt (tgt := 222) dX8_tells_168 (by decide) (fun _ => ?_) (fun h => absurd h (by omega))
    have e : m = H := by omega
    subst e
    exact k M y _ st ct ls hI Fr.rf hst hct hls
  | succ q ih =>
    intro M y st ct ls vv m hm hvv0 hx hI hB hst hct hls k
    have hvv : vv = (q : Int) := by omega
    refine wp_iload dX8_tells_166 rfl ?_
    refine wp_if_lt (tgt := 222) dX8_tells_168 (by decide) (fun h => absurd h (by omega)) (fun _ => ?_)
    refine wp_aload_n dX8_tells_171 rfl rfl ?_
    refine wp_iload dX8_tells_172 rfl ?_
    refine wp_iload_n dX8_tells_174 rfl rfl ?_
    refine wp_iload dX8_tells_175 rfl ?_
    refine wp_callV0 (d' := d - 1) cv_RX8_109 69 rfl [(0, 5), (0, o), (0, vv)] [] rfl rfl (Or.inl ⟨_, _, rfl, by decide, rfl, by omega, by omega⟩) (by omega) (Nat.le_of_ble_eq_true rfl) dX8_tells_177 rfl (Nat.le_of_ble_eq_true rfl) (by omega) (loc1 := [(2, 69), (0, 5), (0, o), (0, vv)]) rfl ?_
    refine wp_iload_n dX8_lays_0 rfl rfl ?_
    refine wp_if_ne (tgt := 12) dX8_lays_1 (by decide) (fun _ => ?_) (fun h => absurd h (by decide))
    refine wp_iload_n dX8_lays_12 rfl rfl ?_
    refine wp_iconst dX8_lays_13 (by decide) ?_
    refine wp_icmp_ge (tgt := 33) dX8_lays_14 (by decide) (fun _ => ?_) (fun h => absurd h (by decide))
    refine wp_iload_n dX8_lays_33 rfl rfl ?_
    refine wp_iconst dX8_lays_34 (by decide) ?_
    refine wp_icmp_ne (tgt := 48) dX8_lays_35 (by decide) (fun h => absurd h (by decide)) (fun _ => ?_)
    refine wp_aload_n dX8_lays_38 rfl rfl ?_
    refine wp_get 69 rfl fl_RX8_23 rfl ⟨by omega, by omega⟩ dX8_lays_39 rfl (v := 73) (sr_69_8 (M := M) hI.1) ?_
    refine wp_iload_n dX8_lays_42 rfl rfl ?_
    refine wp_iload_n dX8_lays_43 rfl rfl ?_
    refine wp_iast 73 rfl rfl ⟨by omega, by omega⟩ ⟨by omega, by omega⟩ dX8_lays_44 (jn := (o).toNat) rfl ?_
    refine wp_goto (tgt := 53) dX8_lays_45 (by decide) ?_
    refine wp_vret rfl dX8_lays_53 ?_
    refine wp_aload_n dX8_tells_180 rfl rfl ?_
    refine wp_iload_n dX8_tells_181 rfl rfl ?_
    refine wp_callV0 (d' := d - 1) cv_RX8_442 69 rfl [(0, (s : Int))] [] rfl rfl (Or.inl ⟨_, _, rfl, by decide, rfl, by omega, by omega⟩) (by omega) (Nat.le_of_ble_eq_true rfl) dX8_tells_182 rfl (Nat.le_of_ble_eq_true rfl) (by omega) (loc1 := [(2, 69), (0, (s : Int)), (9, 0), (9, 0)]) rfl ?_
    have g1 : Fr VMl M (mu M 73 (o).toNat vv) := Fr.rf.put (by unfold VMl VMs; omega)
    have a1 : Rm (mu M 73 (o).toNat vv) (lyA A 1 o (q : Int)) := by
      have h := (show Rm (mu M 73 (o).toNat vv) (setA (lyA A 1 o y) 0 o.toNat vv) from hI.2.1.setK)
      have e := lyA_ly (A := A) (w := 1) (o := o) (y := y) (v := vv)
      rw [hvv] at e h ⊢
      rw [← e]
      exact h
    have I1 : MJ (mu M 73 (o).toNat vv) (lyA A 1 o (q : Int)) E := hI.new g1 a1 (show Wf (setA A 0 o.toNat (q : Int)) from (hW.aSet (by omega) (fun h => by omega))) hI.2.2.2.1
    generalize (mu M 73 (o).toNat vv) = M1 at g1 a1 I1 ⊢
    refine sp_fom hn I1 (by omega) (hB.fr g1 VMl.nh) hV hs hT (fun M2 I2 F2 => ?_)
    rw [hN]
    have R2 := I2.1
    refine wp_iconst dX8_tells_185 (by decide) ?_
    refine wp_icmp_ne (tgt := 216) dX8_tells_186 (by decide) (fun h186 => ?_) (fun h186 => ?_)
    · refine wp_iinc (loc' := [(2, 69), (0, (s : Int)), (0, o), (0, 1), (0, 5), (0, was), (0, last), (0, st), (0, ct), (0, ls), (0, (vv + (-1)))]) dX8_tells_216 rfl (by omega) rfl ?_
      refine wp_goto (tgt := 166) dX8_tells_219 (by decide) ?_
      have F3 : Fr VMt M M2 := (g1.mono VMl.t).tr F2
      have x3 : M2 69 3 = x := (F3 69 3 (by unfold VMt VMl VMs VMw; omega)).trans hx
      have hf : ¬ (fitF E (fun i => B s (2 + i)) N A 1 o) q = true := by rw [show (fitF E (fun i => B s (2 + i)) N A 1 o) q = false from decide_eq_false h186]; decide
      refine ih M2 (q : Int) _ _ _ _ (m + 1) (by omega) (by omega) x3 I2 (hB.fr F3 VMt.nh) ?_ ?_ ?_ (fun M9 y9 u9 a9 b9 c9 I9 F9 => k M9 y9 u9 a9 b9 c9 I9 (F3.tr F9))
      · show st = (((if (fitF E (fun i => B s (2 + i)) N A 1 o) q = true then 2 ^ q else 0) + tpS (fitF E (fun i => B s (2 + i)) N A 1 o) m (q + 1) : Nat) : Int)
        rw [if_neg hf, Nat.zero_add]
        exact hst
      · show ct = (((if (fitF E (fun i => B s (2 + i)) N A 1 o) q = true then 1 else 0) + tpC (fitF E (fun i => B s (2 + i)) N A 1 o) m (q + 1) : Nat) : Int)
        rw [if_neg hf]
        omega
      · show ls = (if (fitF E (fun i => B s (2 + i)) N A 1 o) q = true then (q : Int) else lstF (fitF E (fun i => B s (2 + i)) N A 1 o) m (q + 1))
        rw [if_neg hf]
        exact hls
    · refine wp_iload dX8_tells_189 rfl ?_
      refine wp_iload dX8_tells_191 rfl ?_
      refine wp_bipush dX8_tells_193 (by decide) (by decide) ?_
      refine wp_icmp_ge (tgt := 205) dX8_tells_195 (by decide) (fun h => absurd h (by omega)) (fun _ => ?_)
      refine wp_iconst dX8_tells_198 (by decide) ?_
      refine wp_iload dX8_tells_199 rfl ?_
      refine wp_ishl dX8_tells_201 ?_
      refine wp_goto (tgt := 206) dX8_tells_202 (by decide) ?_
      refine wp_ior dX8_tells_206 ?_
      refine wp_istore (loc' := [(2, 69), (0, (s : Int)), (0, o), (0, 1), (0, 5), (0, was), (0, last), (0, (bor st (shl 1 vv))), (0, ct), (0, ls), (0, vv)]) dX8_tells_207 (Nat.le_of_ble_eq_true rfl) rfl ?_
      refine wp_iinc (loc' := [(2, 69), (0, (s : Int)), (0, o), (0, 1), (0, 5), (0, was), (0, last), (0, (bor st (shl 1 vv))), (0, (ct + 1)), (0, ls), (0, vv)]) dX8_tells_209 rfl (by have := tpC_le (fitF E (fun i => B s (2 + i)) N A 1 o) m (q + 1); omega) rfl ?_
      refine wp_iload dX8_tells_212 rfl ?_
      refine wp_istore (loc' := [(2, 69), (0, (s : Int)), (0, o), (0, 1), (0, 5), (0, was), (0, last), (0, (bor st (shl 1 vv))), (0, (ct + 1)), (0, vv), (0, vv)]) dX8_tells_214 (Nat.le_of_ble_eq_true rfl) rfl ?_
      refine wp_iinc (loc' := [(2, 69), (0, (s : Int)), (0, o), (0, 1), (0, 5), (0, was), (0, last), (0, (bor st (shl 1 vv))), (0, (ct + 1)), (0, vv), (0, (vv + (-1)))]) dX8_tells_216 rfl (by omega) rfl ?_
      refine wp_goto (tgt := 166) dX8_tells_219 (by decide) ?_
      have F3 : Fr VMt M M2 := (g1.mono VMl.t).tr F2
      have x3 : M2 69 3 = x := (F3 69 3 (by unfold VMt VMl VMs VMw; omega)).trans hx
      have hf : (fitF E (fun i => B s (2 + i)) N A 1 o) q = true := decide_eq_true h186
      refine ih M2 (q : Int) _ _ _ _ (m + 1) (by omega) (by omega) x3 I2 (hB.fr F3 VMt.nh) ?_ ?_ ?_ (fun M9 y9 u9 a9 b9 c9 I9 F9 => k M9 y9 u9 a9 b9 c9 I9 (F3.tr F9))
      · rw [hvv, hst]
        exact tpS_hit (by omega) hf
      · show ct + 1 = (((if (fitF E (fun i => B s (2 + i)) N A 1 o) q = true then 1 else 0) + tpC (fitF E (fun i => B s (2 + i)) N A 1 o) m (q + 1) : Nat) : Int)
        rw [if_pos hf]
        omega
      · show vv = (if (fitF E (fun i => B s (2 + i)) N A 1 o) q = true then (q : Int) else lstF (fitF E (fun i => B s (2 + i)) N A 1 o) m (q + 1))
        rw [if_pos hf]
        exact hvv
set_option maxRecDepth 20000 in
set_option maxHeartbeats 4000000 in
theorem lp_tlm_2  {l : Launch} {g : Gw} {d n : Nat} {Q : Option Wd → Mm → Prop} (hn : 90 ≤ n) (hd : 74 ≤ d) {E : Ev} {A : Ls} (hW : Wf A) {B : Mm} (hV : Ws B) {s N H : Nat} (hs : s < 4) (hT : B s 0 ≠ -1) (hN : (B s 1).toNat = N) {o x was last : Int} (ho : 0 ≤ o ∧ o < A.1 2) (hH : H ≤ 10) : ∀ (q : Nat) (M : Mm) (y st ct ls vv : Int) (m : Nat), q + m = H → vv = (q : Int) - 1 → M 69 3 = x → MJ M (lyA A 2 o y) E → Rms M B → st = ((tpS (fitF E (fun i => B s (2 + i)) N A 2 o) m q : Nat) : Int) → ct = ((tpC (fitF E (fun i => B s (2 + i)) N A 2 o) m q : Nat) : Int) → ls = lstF (fitF E (fun i => B s (2 + i)) N A 2 o) m q → (∀ M' y' u st' ct' ls', MJ M' (lyA A 2 o y') E → Fr VMt M M' → st' = ((tpS (fitF E (fun i => B s (2 + i)) N A 2 o) H 0 : Nat) : Int) → ct' = ((tpC (fitF E (fun i => B s (2 + i)) N A 2 o) H 0 : Nat) : Int) → ls' = lstF (fitF E (fun i => B s (2 + i)) N A 2 o) H 0 → Wp l g d 0 0 n m_X8_tells 222 [] [(2, 69), (0, (s : Int)), (0, o), (0, 2), (0, 1), (0, was), (0, last), (0, st'), (0, ct'), (0, ls'), u] M' Q) → Wp l g d 0 0 n m_X8_tells 166 [] [(2, 69), (0, (s : Int)), (0, o), (0, 2), (0, 1), (0, was), (0, last), (0, st), (0, ct), (0, ls), (0, vv)] M Q := by
  have w2 := hW.2.1
  intro q
  induction q with
  | zero =>
    intro M y st ct ls vv m hm hvv hx hI hB hst hct hls k
    refine wp_iload dX8_tells_166 rfl ?_
    refine wp_if_lt (tgt := 222) dX8_tells_168 (by decide) (fun _ => ?_) (fun h => absurd h (by omega))
    have e : m = H := by omega
    subst e
    exact k M y _ st ct ls hI Fr.rf hst hct hls
  | succ q ih =>
    intro M y st ct ls vv m hm hvv0 hx hI hB hst hct hls k
    have hvv : vv = (q : Int) := by omega
    refine wp_iload dX8_tells_166 rfl ?_
    refine wp_if_lt (tgt := 222) dX8_tells_168 (by decide) (fun h => absurd h (by omega)) (fun _ => ?_)
    refine wp_aload_n dX8_tells_171 rfl rfl ?_
    refine wp_iload dX8_tells_172 rfl ?_
    refine wp_iload_n dX8_tells_174 rfl rfl ?_
    refine wp_iload dX8_tells_175 rfl ?_
    refine wp_callV0 (d' := d - 1) cv_RX8_109 69 rfl [(0, 1), (0, o), (0, vv)] [] rfl rfl (Or.inl ⟨_, _, rfl, by decide, rfl, by omega, by omega⟩) (by omega) (Nat.le_of_ble_eq_true rfl) dX8_tells_177 rfl (Nat.le_of_ble_eq_true rfl) (by omega) (loc1 := [(2, 69), (0, 1), (0, o), (0, vv)]) rfl ?_
    refine wp_iload_n dX8_lays_0 rfl rfl ?_
    refine wp_if_ne (tgt := 12) dX8_lays_1 (by decide) (fun _ => ?_) (fun h => absurd h (by decide))
    refine wp_iload_n dX8_lays_12 rfl rfl ?_
    refine wp_iconst dX8_lays_13 (by decide) ?_
    refine wp_icmp_ge (tgt := 33) dX8_lays_14 (by decide) (fun h => absurd h (by decide)) (fun _ => ?_)
    refine wp_aload_n dX8_lays_17 rfl rfl ?_
    refine wp_get 69 rfl fl_RX8_26 rfl ⟨by omega, by omega⟩ dX8_lays_18 rfl (v := 74) (sr_69_9 (M := M) hI.1) ?_
    refine wp_iconst dX8_lays_21 (by decide) ?_
    refine wp_iload_n dX8_lays_22 rfl rfl ?_
    refine wp_imul dX8_lays_23 (by omega) ?_
    refine wp_iload_n dX8_lays_24 rfl rfl ?_
    refine wp_iadd dX8_lays_25 (by omega) ?_
    refine wp_iconst dX8_lays_26 (by decide) ?_
    refine wp_isub dX8_lays_27 (by omega) ?_
    refine wp_iload_n dX8_lays_28 rfl rfl ?_
    refine wp_iast 74 rfl rfl ⟨by omega, by omega⟩ ⟨by omega, by omega⟩ dX8_lays_29 (jn := (4 * o.toNat + 0)) (by omega) ?_
    refine wp_goto (tgt := 53) dX8_lays_30 (by decide) ?_
    refine wp_vret rfl dX8_lays_53 ?_
    refine wp_aload_n dX8_tells_180 rfl rfl ?_
    refine wp_iload_n dX8_tells_181 rfl rfl ?_
    refine wp_callV0 (d' := d - 1) cv_RX8_442 69 rfl [(0, (s : Int))] [] rfl rfl (Or.inl ⟨_, _, rfl, by decide, rfl, by omega, by omega⟩) (by omega) (Nat.le_of_ble_eq_true rfl) dX8_tells_182 rfl (Nat.le_of_ble_eq_true rfl) (by omega) (loc1 := [(2, 69), (0, (s : Int)), (9, 0), (9, 0)]) rfl ?_
    have g1 : Fr VMl M (mu M 74 (4 * o.toNat + 0) vv) := Fr.rf.put (by unfold VMl VMs; omega)
    have a1 : Rm (mu M 74 (4 * o.toNat + 0) vv) (lyA A 2 o (q : Int)) := by
      have h := (show Rm (mu M 74 (4 * o.toNat + 0) vv) (setA (lyA A 2 o y) 1 o.toNat vv) from hI.2.1.setR (r := 0) (i := o.toNat) (by omega))
      have e := lyA_ly (A := A) (w := 2) (o := o) (y := y) (v := vv)
      rw [hvv] at e h ⊢
      rw [← e]
      exact h
    have I1 : MJ (mu M 74 (4 * o.toNat + 0) vv) (lyA A 2 o (q : Int)) E := hI.new g1 a1 (show Wf (setA A 1 o.toNat (q : Int)) from (hW.aSet (by omega) (fun h => by omega))) hI.2.2.2.1
    generalize (mu M 74 (4 * o.toNat + 0) vv) = M1 at g1 a1 I1 ⊢
    refine sp_fom hn I1 (by omega) (hB.fr g1 VMl.nh) hV hs hT (fun M2 I2 F2 => ?_)
    rw [hN]
    have R2 := I2.1
    refine wp_iconst dX8_tells_185 (by decide) ?_
    refine wp_icmp_ne (tgt := 216) dX8_tells_186 (by decide) (fun h186 => ?_) (fun h186 => ?_)
    · refine wp_iinc (loc' := [(2, 69), (0, (s : Int)), (0, o), (0, 2), (0, 1), (0, was), (0, last), (0, st), (0, ct), (0, ls), (0, (vv + (-1)))]) dX8_tells_216 rfl (by omega) rfl ?_
      refine wp_goto (tgt := 166) dX8_tells_219 (by decide) ?_
      have F3 : Fr VMt M M2 := (g1.mono VMl.t).tr F2
      have x3 : M2 69 3 = x := (F3 69 3 (by unfold VMt VMl VMs VMw; omega)).trans hx
      have hf : ¬ (fitF E (fun i => B s (2 + i)) N A 2 o) q = true := by rw [show (fitF E (fun i => B s (2 + i)) N A 2 o) q = false from decide_eq_false h186]; decide
      refine ih M2 (q : Int) _ _ _ _ (m + 1) (by omega) (by omega) x3 I2 (hB.fr F3 VMt.nh) ?_ ?_ ?_ (fun M9 y9 u9 a9 b9 c9 I9 F9 => k M9 y9 u9 a9 b9 c9 I9 (F3.tr F9))
      · show st = (((if (fitF E (fun i => B s (2 + i)) N A 2 o) q = true then 2 ^ q else 0) + tpS (fitF E (fun i => B s (2 + i)) N A 2 o) m (q + 1) : Nat) : Int)
        rw [if_neg hf, Nat.zero_add]
        exact hst
      · show ct = (((if (fitF E (fun i => B s (2 + i)) N A 2 o) q = true then 1 else 0) + tpC (fitF E (fun i => B s (2 + i)) N A 2 o) m (q + 1) : Nat) : Int)
        rw [if_neg hf]
        omega
      · show ls = (if (fitF E (fun i => B s (2 + i)) N A 2 o) q = true then (q : Int) else lstF (fitF E (fun i => B s (2 + i)) N A 2 o) m (q + 1))
        rw [if_neg hf]
        exact hls
    · refine wp_iload dX8_tells_189 rfl ?_
      refine wp_iload dX8_tells_191 rfl ?_
      refine wp_bipush dX8_tells_193 (by decide) (by decide) ?_
      refine wp_icmp_ge (tgt := 205) dX8_tells_195 (by decide) (fun h => absurd h (by omega)) (fun _ => ?_)
      refine wp_iconst dX8_tells_198 (by decide) ?_
      refine wp_iload dX8_tells_199 rfl ?_
      refine wp_ishl dX8_tells_201 ?_
      refine wp_goto (tgt := 206) dX8_tells_202 (by decide) ?_
      refine wp_ior dX8_tells_206 ?_
      refine wp_istore (loc' := [(2, 69), (0, (s : Int)), (0, o), (0, 2), (0, 1), (0, was), (0, last), (0, (bor st (shl 1 vv))), (0, ct), (0, ls), (0, vv)]) dX8_tells_207 (Nat.le_of_ble_eq_true rfl) rfl ?_
      refine wp_iinc (loc' := [(2, 69), (0, (s : Int)), (0, o), (0, 2), (0, 1), (0, was), (0, last), (0, (bor st (shl 1 vv))), (0, (ct + 1)), (0, ls), (0, vv)]) dX8_tells_209 rfl (by have := tpC_le (fitF E (fun i => B s (2 + i)) N A 2 o) m (q + 1); omega) rfl ?_
      refine wp_iload dX8_tells_212 rfl ?_
      refine wp_istore (loc' := [(2, 69), (0, (s : Int)), (0, o), (0, 2), (0, 1), (0, was), (0, last), (0, (bor st (shl 1 vv))), (0, (ct + 1)), (0, vv), (0, vv)]) dX8_tells_214 (Nat.le_of_ble_eq_true rfl) rfl ?_
      refine wp_iinc (loc' := [(2, 69), (0, (s : Int)), (0, o), (0, 2), (0, 1), (0, was), (0, last), (0, (bor st (shl 1 vv))), (0, (ct + 1)), (0, vv), (0, (vv + (-1)))]) dX8_tells_216 rfl (by omega) rfl ?_
      refine wp_goto (tgt := 166) dX8_tells_219 (by decide) ?_
      have F3 : Fr VMt M M2 := (g1.mono VMl.t).tr F2
      have x3 : M2 69 3 = x := (F3 69 3 (by unfold VMt VMl VMs VMw; omega)).trans hx
      have hf : (fitF E (fun i => B s (2 + i)) N A 2 o) q = true := decide_eq_true h186
      refine ih M2 (q : Int) _ _ _ _ (m + 1) (by omega) (by omega) x3 I2 (hB.fr F3 VMt.nh) ?_ ?_ ?_ (fun M9 y9 u9 a9 b9 c9 I9 F9 => k M9 y9 u9 a9 b9 c9 I9 (F3.tr F9))
      · rw [hvv, hst]
        exact tpS_hit (by omega) hf
      · show ct + 1 = (((if (fitF E (fun i => B s (2 + i)) N A 2 o) q = true then 1 else 0) + tpC (fitF E (fun i => B s (2 + i)) N A 2 o) m (q + 1) : Nat) : Int)
        rw [if_pos hf]
        omega
      · show vv = (if (fitF E (fun i => B s (2 + i)) N A 2 o) q = true then (q : Int) else lstF (fitF E (fun i => B s (2 + i)) N A 2 o) m (q + 1))
        rw [if_pos hf]
        exact hvv
set_option maxRecDepth 20000 in
set_option maxHeartbeats 4000000 in
theorem lp_tlm_3  {l : Launch} {g : Gw} {d n : Nat} {Q : Option Wd → Mm → Prop} (hn : 90 ≤ n) (hd : 74 ≤ d) {E : Ev} {A : Ls} (hW : Wf A) {B : Mm} (hV : Ws B) {s N H : Nat} (hs : s < 4) (hT : B s 0 ≠ -1) (hN : (B s 1).toNat = N) {o x was last : Int} (ho : 0 ≤ o ∧ o < A.1 2) (hH : H ≤ 41) : ∀ (q : Nat) (M : Mm) (y st ct ls vv : Int) (m : Nat), q + m = H → vv = (q : Int) - 1 → M 69 3 = x → MJ M (lyA A 3 o y) E → Rms M B → True → ct = ((tpC (fitF E (fun i => B s (2 + i)) N A 3 o) m q : Nat) : Int) → ls = lstF (fitF E (fun i => B s (2 + i)) N A 3 o) m q → (∀ M' y' u st' ct' ls', MJ M' (lyA A 3 o y') E → Fr VMt M M' → True → ct' = ((tpC (fitF E (fun i => B s (2 + i)) N A 3 o) H 0 : Nat) : Int) → ls' = lstF (fitF E (fun i => B s (2 + i)) N A 3 o) H 0 → Wp l g d 0 0 n m_X8_tells 222 [] [(2, 69), (0, (s : Int)), (0, o), (0, 3), (0, 4), (0, was), (0, last), (0, st'), (0, ct'), (0, ls'), u] M' Q) → Wp l g d 0 0 n m_X8_tells 166 [] [(2, 69), (0, (s : Int)), (0, o), (0, 3), (0, 4), (0, was), (0, last), (0, st), (0, ct), (0, ls), (0, vv)] M Q := by
  have w2 := hW.2.1
  intro q
  induction q with
  | zero =>
    intro M y st ct ls vv m hm hvv hx hI hB hst hct hls k
    refine wp_iload dX8_tells_166 rfl ?_
    refine wp_if_lt (tgt := 222) dX8_tells_168 (by decide) (fun _ => ?_) (fun h => absurd h (by omega))
    have e : m = H := by omega
    subst e
    exact k M y _ st ct ls hI Fr.rf hst hct hls
  | succ q ih =>
    intro M y st ct ls vv m hm hvv0 hx hI hB hst hct hls k
    have hvv : vv = (q : Int) := by omega
    refine wp_iload dX8_tells_166 rfl ?_
    refine wp_if_lt (tgt := 222) dX8_tells_168 (by decide) (fun h => absurd h (by omega)) (fun _ => ?_)
    refine wp_aload_n dX8_tells_171 rfl rfl ?_
    refine wp_iload dX8_tells_172 rfl ?_
    refine wp_iload_n dX8_tells_174 rfl rfl ?_
    refine wp_iload dX8_tells_175 rfl ?_
    refine wp_callV0 (d' := d - 1) cv_RX8_109 69 rfl [(0, 4), (0, o), (0, vv)] [] rfl rfl (Or.inl ⟨_, _, rfl, by decide, rfl, by omega, by omega⟩) (by omega) (Nat.le_of_ble_eq_true rfl) dX8_tells_177 rfl (Nat.le_of_ble_eq_true rfl) (by omega) (loc1 := [(2, 69), (0, 4), (0, o), (0, vv)]) rfl ?_
    refine wp_iload_n dX8_lays_0 rfl rfl ?_
    refine wp_if_ne (tgt := 12) dX8_lays_1 (by decide) (fun _ => ?_) (fun h => absurd h (by decide))
    refine wp_iload_n dX8_lays_12 rfl rfl ?_
    refine wp_iconst dX8_lays_13 (by decide) ?_
    refine wp_icmp_ge (tgt := 33) dX8_lays_14 (by decide) (fun h => absurd h (by decide)) (fun _ => ?_)
    refine wp_aload_n dX8_lays_17 rfl rfl ?_
    refine wp_get 69 rfl fl_RX8_26 rfl ⟨by omega, by omega⟩ dX8_lays_18 rfl (v := 74) (sr_69_9 (M := M) hI.1) ?_
    refine wp_iconst dX8_lays_21 (by decide) ?_
    refine wp_iload_n dX8_lays_22 rfl rfl ?_
    refine wp_imul dX8_lays_23 (by omega) ?_
    refine wp_iload_n dX8_lays_24 rfl rfl ?_
    refine wp_iadd dX8_lays_25 (by omega) ?_
    refine wp_iconst dX8_lays_26 (by decide) ?_
    refine wp_isub dX8_lays_27 (by omega) ?_
    refine wp_iload_n dX8_lays_28 rfl rfl ?_
    refine wp_iast 74 rfl rfl ⟨by omega, by omega⟩ ⟨by omega, by omega⟩ dX8_lays_29 (jn := (4 * o.toNat + 3)) (by omega) ?_
    refine wp_goto (tgt := 53) dX8_lays_30 (by decide) ?_
    refine wp_vret rfl dX8_lays_53 ?_
    refine wp_aload_n dX8_tells_180 rfl rfl ?_
    refine wp_iload_n dX8_tells_181 rfl rfl ?_
    refine wp_callV0 (d' := d - 1) cv_RX8_442 69 rfl [(0, (s : Int))] [] rfl rfl (Or.inl ⟨_, _, rfl, by decide, rfl, by omega, by omega⟩) (by omega) (Nat.le_of_ble_eq_true rfl) dX8_tells_182 rfl (Nat.le_of_ble_eq_true rfl) (by omega) (loc1 := [(2, 69), (0, (s : Int)), (9, 0), (9, 0)]) rfl ?_
    have g1 : Fr VMl M (mu M 74 (4 * o.toNat + 3) vv) := Fr.rf.put (by unfold VMl VMs; omega)
    have a1 : Rm (mu M 74 (4 * o.toNat + 3) vv) (lyA A 3 o (q : Int)) := by
      have h := (show Rm (mu M 74 (4 * o.toNat + 3) vv) (setA (lyA A 3 o y) 4 o.toNat vv) from hI.2.1.setR (r := 3) (i := o.toNat) (by omega))
      have e := lyA_ly (A := A) (w := 3) (o := o) (y := y) (v := vv)
      rw [hvv] at e h ⊢
      rw [← e]
      exact h
    have I1 : MJ (mu M 74 (4 * o.toNat + 3) vv) (lyA A 3 o (q : Int)) E := hI.new g1 a1 (show Wf (setA A 4 o.toNat (q : Int)) from (hW.aSet (by omega) (fun h => by omega))) hI.2.2.2.1
    generalize (mu M 74 (4 * o.toNat + 3) vv) = M1 at g1 a1 I1 ⊢
    refine sp_fom hn I1 (by omega) (hB.fr g1 VMl.nh) hV hs hT (fun M2 I2 F2 => ?_)
    rw [hN]
    have R2 := I2.1
    refine wp_iconst dX8_tells_185 (by decide) ?_
    refine wp_icmp_ne (tgt := 216) dX8_tells_186 (by decide) (fun h186 => ?_) (fun h186 => ?_)
    · refine wp_iinc (loc' := [(2, 69), (0, (s : Int)), (0, o), (0, 3), (0, 4), (0, was), (0, last), (0, st), (0, ct), (0, ls), (0, (vv + (-1)))]) dX8_tells_216 rfl (by omega) rfl ?_
      refine wp_goto (tgt := 166) dX8_tells_219 (by decide) ?_
      have F3 : Fr VMt M M2 := (g1.mono VMl.t).tr F2
      have x3 : M2 69 3 = x := (F3 69 3 (by unfold VMt VMl VMs VMw; omega)).trans hx
      have hf : ¬ (fitF E (fun i => B s (2 + i)) N A 3 o) q = true := by rw [show (fitF E (fun i => B s (2 + i)) N A 3 o) q = false from decide_eq_false h186]; decide
      refine ih M2 (q : Int) _ _ _ _ (m + 1) (by omega) (by omega) x3 I2 (hB.fr F3 VMt.nh) ?_ ?_ ?_ (fun M9 y9 u9 a9 b9 c9 I9 F9 => k M9 y9 u9 a9 b9 c9 I9 (F3.tr F9))
      · trivial
      · show ct = (((if (fitF E (fun i => B s (2 + i)) N A 3 o) q = true then 1 else 0) + tpC (fitF E (fun i => B s (2 + i)) N A 3 o) m (q + 1) : Nat) : Int)
        rw [if_neg hf]
        omega
      · show ls = (if (fitF E (fun i => B s (2 + i)) N A 3 o) q = true then (q : Int) else lstF (fitF E (fun i => B s (2 + i)) N A 3 o) m (q + 1))
        rw [if_neg hf]
        exact hls
    · refine wp_iload dX8_tells_189 rfl ?_
      refine wp_iload dX8_tells_191 rfl ?_
      refine wp_bipush dX8_tells_193 (by decide) (by decide) ?_
      refine wp_icmp_ge (tgt := 205) dX8_tells_195 (by decide) (fun h195 => ?_) (fun h195 => ?_)
      · refine wp_iconst dX8_tells_205 (by decide) ?_
        refine wp_ior dX8_tells_206 ?_
        refine wp_istore (loc' := [(2, 69), (0, (s : Int)), (0, o), (0, 3), (0, 4), (0, was), (0, last), (0, (bor st 0)), (0, ct), (0, ls), (0, vv)]) dX8_tells_207 (Nat.le_of_ble_eq_true rfl) rfl ?_
        refine wp_iinc (loc' := [(2, 69), (0, (s : Int)), (0, o), (0, 3), (0, 4), (0, was), (0, last), (0, (bor st 0)), (0, (ct + 1)), (0, ls), (0, vv)]) dX8_tells_209 rfl (by have := tpC_le (fitF E (fun i => B s (2 + i)) N A 3 o) m (q + 1); omega) rfl ?_
        refine wp_iload dX8_tells_212 rfl ?_
        refine wp_istore (loc' := [(2, 69), (0, (s : Int)), (0, o), (0, 3), (0, 4), (0, was), (0, last), (0, (bor st 0)), (0, (ct + 1)), (0, vv), (0, vv)]) dX8_tells_214 (Nat.le_of_ble_eq_true rfl) rfl ?_
        refine wp_iinc (loc' := [(2, 69), (0, (s : Int)), (0, o), (0, 3), (0, 4), (0, was), (0, last), (0, (bor st 0)), (0, (ct + 1)), (0, vv), (0, (vv + (-1)))]) dX8_tells_216 rfl (by omega) rfl ?_
        refine wp_goto (tgt := 166) dX8_tells_219 (by decide) ?_
        have F3 : Fr VMt M M2 := (g1.mono VMl.t).tr F2
        have x3 : M2 69 3 = x := (F3 69 3 (by unfold VMt VMl VMs VMw; omega)).trans hx
        have hf : (fitF E (fun i => B s (2 + i)) N A 3 o) q = true := decide_eq_true h186
        refine ih M2 (q : Int) _ _ _ _ (m + 1) (by omega) (by omega) x3 I2 (hB.fr F3 VMt.nh) ?_ ?_ ?_ (fun M9 y9 u9 a9 b9 c9 I9 F9 => k M9 y9 u9 a9 b9 c9 I9 (F3.tr F9))
        · trivial
        · show ct + 1 = (((if (fitF E (fun i => B s (2 + i)) N A 3 o) q = true then 1 else 0) + tpC (fitF E (fun i => B s (2 + i)) N A 3 o) m (q + 1) : Nat) : Int)
          rw [if_pos hf]
          omega
        · show vv = (if (fitF E (fun i => B s (2 + i)) N A 3 o) q = true then (q : Int) else lstF (fitF E (fun i => B s (2 + i)) N A 3 o) m (q + 1))
          rw [if_pos hf]
          exact hvv
      · refine wp_iconst dX8_tells_198 (by decide) ?_
        refine wp_iload dX8_tells_199 rfl ?_
        refine wp_ishl dX8_tells_201 ?_
        refine wp_goto (tgt := 206) dX8_tells_202 (by decide) ?_
        refine wp_ior dX8_tells_206 ?_
        refine wp_istore (loc' := [(2, 69), (0, (s : Int)), (0, o), (0, 3), (0, 4), (0, was), (0, last), (0, (bor st (shl 1 vv))), (0, ct), (0, ls), (0, vv)]) dX8_tells_207 (Nat.le_of_ble_eq_true rfl) rfl ?_
        refine wp_iinc (loc' := [(2, 69), (0, (s : Int)), (0, o), (0, 3), (0, 4), (0, was), (0, last), (0, (bor st (shl 1 vv))), (0, (ct + 1)), (0, ls), (0, vv)]) dX8_tells_209 rfl (by have := tpC_le (fitF E (fun i => B s (2 + i)) N A 3 o) m (q + 1); omega) rfl ?_
        refine wp_iload dX8_tells_212 rfl ?_
        refine wp_istore (loc' := [(2, 69), (0, (s : Int)), (0, o), (0, 3), (0, 4), (0, was), (0, last), (0, (bor st (shl 1 vv))), (0, (ct + 1)), (0, vv), (0, vv)]) dX8_tells_214 (Nat.le_of_ble_eq_true rfl) rfl ?_
        refine wp_iinc (loc' := [(2, 69), (0, (s : Int)), (0, o), (0, 3), (0, 4), (0, was), (0, last), (0, (bor st (shl 1 vv))), (0, (ct + 1)), (0, vv), (0, (vv + (-1)))]) dX8_tells_216 rfl (by omega) rfl ?_
        refine wp_goto (tgt := 166) dX8_tells_219 (by decide) ?_
        have F3 : Fr VMt M M2 := (g1.mono VMl.t).tr F2
        have x3 : M2 69 3 = x := (F3 69 3 (by unfold VMt VMl VMs VMw; omega)).trans hx
        have hf : (fitF E (fun i => B s (2 + i)) N A 3 o) q = true := decide_eq_true h186
        refine ih M2 (q : Int) _ _ _ _ (m + 1) (by omega) (by omega) x3 I2 (hB.fr F3 VMt.nh) ?_ ?_ ?_ (fun M9 y9 u9 a9 b9 c9 I9 F9 => k M9 y9 u9 a9 b9 c9 I9 (F3.tr F9))
        · trivial
        · show ct + 1 = (((if (fitF E (fun i => B s (2 + i)) N A 3 o) q = true then 1 else 0) + tpC (fitF E (fun i => B s (2 + i)) N A 3 o) m (q + 1) : Nat) : Int)
          rw [if_pos hf]
          omega
        · show vv = (if (fitF E (fun i => B s (2 + i)) N A 3 o) q = true then (q : Int) else lstF (fitF E (fun i => B s (2 + i)) N A 3 o) m (q + 1))
          rw [if_pos hf]
          exact hvv
set_option maxRecDepth 20000 in
set_option maxHeartbeats 4000000 in
theorem lp_tlm_4  {l : Launch} {g : Gw} {d n : Nat} {Q : Option Wd → Mm → Prop} (hn : 90 ≤ n) (hd : 74 ≤ d) {E : Ev} {A : Ls} (hW : Wf A) {B : Mm} (hV : Ws B) {s N H : Nat} (hs : s < 4) (hT : B s 0 ≠ -1) (hN : (B s 1).toNat = N) {o x was last : Int} (ho : 0 ≤ o ∧ o < A.1 2) (hH : H ≤ 41) : ∀ (q : Nat) (M : Mm) (y st ct ls vv : Int) (m : Nat), q + m = H → vv = (q : Int) - 1 → M 69 3 = x → MJ M (lyA A 4 o y) E → Rms M B → True → ct = ((tpC (fitF E (fun i => B s (2 + i)) N A 4 o) m q : Nat) : Int) → ls = lstF (fitF E (fun i => B s (2 + i)) N A 4 o) m q → (∀ M' y' u st' ct' ls', MJ M' (lyA A 4 o y') E → Fr VMt M M' → True → ct' = ((tpC (fitF E (fun i => B s (2 + i)) N A 4 o) H 0 : Nat) : Int) → ls' = lstF (fitF E (fun i => B s (2 + i)) N A 4 o) H 0 → Wp l g d 0 0 n m_X8_tells 222 [] [(2, 69), (0, (s : Int)), (0, o), (0, 4), (0, 4), (0, was), (0, last), (0, st'), (0, ct'), (0, ls'), u] M' Q) → Wp l g d 0 0 n m_X8_tells 166 [] [(2, 69), (0, (s : Int)), (0, o), (0, 4), (0, 4), (0, was), (0, last), (0, st), (0, ct), (0, ls), (0, vv)] M Q := by
  have w2 := hW.2.1
  intro q
  induction q with
  | zero =>
    intro M y st ct ls vv m hm hvv hx hI hB hst hct hls k
    refine wp_iload dX8_tells_166 rfl ?_
    refine wp_if_lt (tgt := 222) dX8_tells_168 (by decide) (fun _ => ?_) (fun h => absurd h (by omega))
    have e : m = H := by omega
    subst e
    exact k M y _ st ct ls hI Fr.rf hst hct hls
  | succ q ih =>
    intro M y st ct ls vv m hm hvv0 hx hI hB hst hct hls k
    have hvv : vv = (q : Int) := by omega
    refine wp_iload dX8_tells_166 rfl ?_
    refine wp_if_lt (tgt := 222) dX8_tells_168 (by decide) (fun h => absurd h (by omega)) (fun _ => ?_)
    refine wp_aload_n dX8_tells_171 rfl rfl ?_
    refine wp_iload dX8_tells_172 rfl ?_
    refine wp_iload_n dX8_tells_174 rfl rfl ?_
    refine wp_iload dX8_tells_175 rfl ?_
    refine wp_callV0 (d' := d - 1) cv_RX8_109 69 rfl [(0, 4), (0, o), (0, vv)] [] rfl rfl (Or.inl ⟨_, _, rfl, by decide, rfl, by omega, by omega⟩) (by omega) (Nat.le_of_ble_eq_true rfl) dX8_tells_177 rfl (Nat.le_of_ble_eq_true rfl) (by omega) (loc1 := [(2, 69), (0, 4), (0, o), (0, vv)]) rfl ?_
    refine wp_iload_n dX8_lays_0 rfl rfl ?_
    refine wp_if_ne (tgt := 12) dX8_lays_1 (by decide) (fun _ => ?_) (fun h => absurd h (by decide))
    refine wp_iload_n dX8_lays_12 rfl rfl ?_
    refine wp_iconst dX8_lays_13 (by decide) ?_
    refine wp_icmp_ge (tgt := 33) dX8_lays_14 (by decide) (fun h => absurd h (by decide)) (fun _ => ?_)
    refine wp_aload_n dX8_lays_17 rfl rfl ?_
    refine wp_get 69 rfl fl_RX8_26 rfl ⟨by omega, by omega⟩ dX8_lays_18 rfl (v := 74) (sr_69_9 (M := M) hI.1) ?_
    refine wp_iconst dX8_lays_21 (by decide) ?_
    refine wp_iload_n dX8_lays_22 rfl rfl ?_
    refine wp_imul dX8_lays_23 (by omega) ?_
    refine wp_iload_n dX8_lays_24 rfl rfl ?_
    refine wp_iadd dX8_lays_25 (by omega) ?_
    refine wp_iconst dX8_lays_26 (by decide) ?_
    refine wp_isub dX8_lays_27 (by omega) ?_
    refine wp_iload_n dX8_lays_28 rfl rfl ?_
    refine wp_iast 74 rfl rfl ⟨by omega, by omega⟩ ⟨by omega, by omega⟩ dX8_lays_29 (jn := (4 * o.toNat + 3)) (by omega) ?_
    refine wp_goto (tgt := 53) dX8_lays_30 (by decide) ?_
    refine wp_vret rfl dX8_lays_53 ?_
    refine wp_aload_n dX8_tells_180 rfl rfl ?_
    refine wp_iload_n dX8_tells_181 rfl rfl ?_
    refine wp_callV0 (d' := d - 1) cv_RX8_442 69 rfl [(0, (s : Int))] [] rfl rfl (Or.inl ⟨_, _, rfl, by decide, rfl, by omega, by omega⟩) (by omega) (Nat.le_of_ble_eq_true rfl) dX8_tells_182 rfl (Nat.le_of_ble_eq_true rfl) (by omega) (loc1 := [(2, 69), (0, (s : Int)), (9, 0), (9, 0)]) rfl ?_
    have g1 : Fr VMl M (mu M 74 (4 * o.toNat + 3) vv) := Fr.rf.put (by unfold VMl VMs; omega)
    have a1 : Rm (mu M 74 (4 * o.toNat + 3) vv) (lyA A 4 o (q : Int)) := by
      have h := (show Rm (mu M 74 (4 * o.toNat + 3) vv) (setA (lyA A 4 o y) 4 o.toNat vv) from hI.2.1.setR (r := 3) (i := o.toNat) (by omega))
      have e := lyA_ly (A := A) (w := 4) (o := o) (y := y) (v := vv)
      rw [hvv] at e h ⊢
      rw [← e]
      exact h
    have I1 : MJ (mu M 74 (4 * o.toNat + 3) vv) (lyA A 4 o (q : Int)) E := hI.new g1 a1 (show Wf (setA A 4 o.toNat (q : Int)) from (hW.aSet (by omega) (fun h => by omega))) hI.2.2.2.1
    generalize (mu M 74 (4 * o.toNat + 3) vv) = M1 at g1 a1 I1 ⊢
    refine sp_fom hn I1 (by omega) (hB.fr g1 VMl.nh) hV hs hT (fun M2 I2 F2 => ?_)
    rw [hN]
    have R2 := I2.1
    refine wp_iconst dX8_tells_185 (by decide) ?_
    refine wp_icmp_ne (tgt := 216) dX8_tells_186 (by decide) (fun h186 => ?_) (fun h186 => ?_)
    · refine wp_iinc (loc' := [(2, 69), (0, (s : Int)), (0, o), (0, 4), (0, 4), (0, was), (0, last), (0, st), (0, ct), (0, ls), (0, (vv + (-1)))]) dX8_tells_216 rfl (by omega) rfl ?_
      refine wp_goto (tgt := 166) dX8_tells_219 (by decide) ?_
      have F3 : Fr VMt M M2 := (g1.mono VMl.t).tr F2
      have x3 : M2 69 3 = x := (F3 69 3 (by unfold VMt VMl VMs VMw; omega)).trans hx
      have hf : ¬ (fitF E (fun i => B s (2 + i)) N A 4 o) q = true := by rw [show (fitF E (fun i => B s (2 + i)) N A 4 o) q = false from decide_eq_false h186]; decide
      refine ih M2 (q : Int) _ _ _ _ (m + 1) (by omega) (by omega) x3 I2 (hB.fr F3 VMt.nh) ?_ ?_ ?_ (fun M9 y9 u9 a9 b9 c9 I9 F9 => k M9 y9 u9 a9 b9 c9 I9 (F3.tr F9))
      · trivial
      · show ct = (((if (fitF E (fun i => B s (2 + i)) N A 4 o) q = true then 1 else 0) + tpC (fitF E (fun i => B s (2 + i)) N A 4 o) m (q + 1) : Nat) : Int)
        rw [if_neg hf]
        omega
      · show ls = (if (fitF E (fun i => B s (2 + i)) N A 4 o) q = true then (q : Int) else lstF (fitF E (fun i => B s (2 + i)) N A 4 o) m (q + 1))
        rw [if_neg hf]
        exact hls
    · refine wp_iload dX8_tells_189 rfl ?_
      refine wp_iload dX8_tells_191 rfl ?_
      refine wp_bipush dX8_tells_193 (by decide) (by decide) ?_
      refine wp_icmp_ge (tgt := 205) dX8_tells_195 (by decide) (fun h195 => ?_) (fun h195 => ?_)
      · refine wp_iconst dX8_tells_205 (by decide) ?_
        refine wp_ior dX8_tells_206 ?_
        refine wp_istore (loc' := [(2, 69), (0, (s : Int)), (0, o), (0, 4), (0, 4), (0, was), (0, last), (0, (bor st 0)), (0, ct), (0, ls), (0, vv)]) dX8_tells_207 (Nat.le_of_ble_eq_true rfl) rfl ?_
        refine wp_iinc (loc' := [(2, 69), (0, (s : Int)), (0, o), (0, 4), (0, 4), (0, was), (0, last), (0, (bor st 0)), (0, (ct + 1)), (0, ls), (0, vv)]) dX8_tells_209 rfl (by have := tpC_le (fitF E (fun i => B s (2 + i)) N A 4 o) m (q + 1); omega) rfl ?_
        refine wp_iload dX8_tells_212 rfl ?_
        refine wp_istore (loc' := [(2, 69), (0, (s : Int)), (0, o), (0, 4), (0, 4), (0, was), (0, last), (0, (bor st 0)), (0, (ct + 1)), (0, vv), (0, vv)]) dX8_tells_214 (Nat.le_of_ble_eq_true rfl) rfl ?_
        refine wp_iinc (loc' := [(2, 69), (0, (s : Int)), (0, o), (0, 4), (0, 4), (0, was), (0, last), (0, (bor st 0)), (0, (ct + 1)), (0, vv), (0, (vv + (-1)))]) dX8_tells_216 rfl (by omega) rfl ?_
        refine wp_goto (tgt := 166) dX8_tells_219 (by decide) ?_
        have F3 : Fr VMt M M2 := (g1.mono VMl.t).tr F2
        have x3 : M2 69 3 = x := (F3 69 3 (by unfold VMt VMl VMs VMw; omega)).trans hx
        have hf : (fitF E (fun i => B s (2 + i)) N A 4 o) q = true := decide_eq_true h186
        refine ih M2 (q : Int) _ _ _ _ (m + 1) (by omega) (by omega) x3 I2 (hB.fr F3 VMt.nh) ?_ ?_ ?_ (fun M9 y9 u9 a9 b9 c9 I9 F9 => k M9 y9 u9 a9 b9 c9 I9 (F3.tr F9))
        · trivial
        · show ct + 1 = (((if (fitF E (fun i => B s (2 + i)) N A 4 o) q = true then 1 else 0) + tpC (fitF E (fun i => B s (2 + i)) N A 4 o) m (q + 1) : Nat) : Int)
          rw [if_pos hf]
          omega
        · show vv = (if (fitF E (fun i => B s (2 + i)) N A 4 o) q = true then (q : Int) else lstF (fitF E (fun i => B s (2 + i)) N A 4 o) m (q + 1))
          rw [if_pos hf]
          exact hvv
      · refine wp_iconst dX8_tells_198 (by decide) ?_
        refine wp_iload dX8_tells_199 rfl ?_
        refine wp_ishl dX8_tells_201 ?_
        refine wp_goto (tgt := 206) dX8_tells_202 (by decide) ?_
        refine wp_ior dX8_tells_206 ?_
        refine wp_istore (loc' := [(2, 69), (0, (s : Int)), (0, o), (0, 4), (0, 4), (0, was), (0, last), (0, (bor st (shl 1 vv))), (0, ct), (0, ls), (0, vv)]) dX8_tells_207 (Nat.le_of_ble_eq_true rfl) rfl ?_
        refine wp_iinc (loc' := [(2, 69), (0, (s : Int)), (0, o), (0, 4), (0, 4), (0, was), (0, last), (0, (bor st (shl 1 vv))), (0, (ct + 1)), (0, ls), (0, vv)]) dX8_tells_209 rfl (by have := tpC_le (fitF E (fun i => B s (2 + i)) N A 4 o) m (q + 1); omega) rfl ?_
        refine wp_iload dX8_tells_212 rfl ?_
        refine wp_istore (loc' := [(2, 69), (0, (s : Int)), (0, o), (0, 4), (0, 4), (0, was), (0, last), (0, (bor st (shl 1 vv))), (0, (ct + 1)), (0, vv), (0, vv)]) dX8_tells_214 (Nat.le_of_ble_eq_true rfl) rfl ?_
        refine wp_iinc (loc' := [(2, 69), (0, (s : Int)), (0, o), (0, 4), (0, 4), (0, was), (0, last), (0, (bor st (shl 1 vv))), (0, (ct + 1)), (0, vv), (0, (vv + (-1)))]) dX8_tells_216 rfl (by omega) rfl ?_
        refine wp_goto (tgt := 166) dX8_tells_219 (by decide) ?_
        have F3 : Fr VMt M M2 := (g1.mono VMl.t).tr F2
        have x3 : M2 69 3 = x := (F3 69 3 (by unfold VMt VMl VMs VMw; omega)).trans hx
        have hf : (fitF E (fun i => B s (2 + i)) N A 4 o) q = true := decide_eq_true h186
        refine ih M2 (q : Int) _ _ _ _ (m + 1) (by omega) (by omega) x3 I2 (hB.fr F3 VMt.nh) ?_ ?_ ?_ (fun M9 y9 u9 a9 b9 c9 I9 F9 => k M9 y9 u9 a9 b9 c9 I9 (F3.tr F9))
        · trivial
        · show ct + 1 = (((if (fitF E (fun i => B s (2 + i)) N A 4 o) q = true then 1 else 0) + tpC (fitF E (fun i => B s (2 + i)) N A 4 o) m (q + 1) : Nat) : Int)
          rw [if_pos hf]
          omega
        · show vv = (if (fitF E (fun i => B s (2 + i)) N A 4 o) q = true then (q : Int) else lstF (fitF E (fun i => B s (2 + i)) N A 4 o) m (q + 1))
          rw [if_pos hf]
          exact hvv
set_option maxRecDepth 20000 in
set_option maxHeartbeats 4000000 in
theorem lp_tlm_5  {l : Launch} {g : Gw} {d n : Nat} {Q : Option Wd → Mm → Prop} (hn : 90 ≤ n) (hd : 74 ≤ d) {E : Ev} {A : Ls} (hW : Wf A) {B : Mm} (hV : Ws B) {s N H : Nat} (hs : s < 4) (hT : B s 0 ≠ -1) (hN : (B s 1).toNat = N) {o x was last : Int} (ho : 0 ≤ o ∧ o < A.1 2) (hH : (H : Int) = x) (hH6 : H ≤ 10) : ∀ (q : Nat) (M : Mm) (y st ct ls vv : Int) (m : Nat), q + m = H → vv = (q : Int) - 1 → M 69 3 = x → MJ M (lyA A 5 o y) E → Rms M B → st = ((tpS (fitF E (fun i => B s (2 + i)) N A 5 o) m q : Nat) : Int) → ct = ((tpC (fitF E (fun i => B s (2 + i)) N A 5 o) m q : Nat) : Int) → ls = lstF (fitF E (fun i => B s (2 + i)) N A 5 o) m q → (∀ M' y' u st' ct' ls', MJ M' (lyA A 5 o y') E → Fr VMt M M' → st' = ((tpS (fitF E (fun i => B s (2 + i)) N A 5 o) H 0 : Nat) : Int) → ct' = ((tpC (fitF E (fun i => B s (2 + i)) N A 5 o) H 0 : Nat) : Int) → ls' = lstF (fitF E (fun i => B s (2 + i)) N A 5 o) H 0 → Wp l g d 0 0 n m_X8_tells 222 [] [(2, 69), (0, (s : Int)), (0, o), (0, 5), (0, 6), (0, was), (0, last), (0, st'), (0, ct'), (0, ls'), u] M' Q) → Wp l g d 0 0 n m_X8_tells 166 [] [(2, 69), (0, (s : Int)), (0, o), (0, 5), (0, 6), (0, was), (0, last), (0, st), (0, ct), (0, ls), (0, vv)] M Q := by
  have w2 := hW.2.1
  intro q
  induction q with
  | zero =>
    intro M y st ct ls vv m hm hvv hx hI hB hst hct hls k
    refine wp_iload dX8_tells_166 rfl ?_
    refine wp_if_lt (tgt := 222) dX8_tells_168 (by decide) (fun _ => ?_) (fun h => absurd h (by omega))
    have e : m = H := by omega
    subst e
    exact k M y _ st ct ls hI Fr.rf hst hct hls
  | succ q ih =>
    intro M y st ct ls vv m hm hvv0 hx hI hB hst hct hls k
    have hvv : vv = (q : Int) := by omega
    refine wp_iload dX8_tells_166 rfl ?_
    refine wp_if_lt (tgt := 222) dX8_tells_168 (by decide) (fun h => absurd h (by omega)) (fun _ => ?_)
    refine wp_aload_n dX8_tells_171 rfl rfl ?_
    refine wp_iload dX8_tells_172 rfl ?_
    refine wp_iload_n dX8_tells_174 rfl rfl ?_
    refine wp_iload dX8_tells_175 rfl ?_
    refine wp_callV0 (d' := d - 1) cv_RX8_109 69 rfl [(0, 6), (0, o), (0, vv)] [] rfl rfl (Or.inl ⟨_, _, rfl, by decide, rfl, by omega, by omega⟩) (by omega) (Nat.le_of_ble_eq_true rfl) dX8_tells_177 rfl (Nat.le_of_ble_eq_true rfl) (by omega) (loc1 := [(2, 69), (0, 6), (0, o), (0, vv)]) rfl ?_
    refine wp_iload_n dX8_lays_0 rfl rfl ?_
    refine wp_if_ne (tgt := 12) dX8_lays_1 (by decide) (fun _ => ?_) (fun h => absurd h (by decide))
    refine wp_iload_n dX8_lays_12 rfl rfl ?_
    refine wp_iconst dX8_lays_13 (by decide) ?_
    refine wp_icmp_ge (tgt := 33) dX8_lays_14 (by decide) (fun _ => ?_) (fun h => absurd h (by decide))
    refine wp_iload_n dX8_lays_33 rfl rfl ?_
    refine wp_iconst dX8_lays_34 (by decide) ?_
    refine wp_icmp_ne (tgt := 48) dX8_lays_35 (by decide) (fun _ => ?_) (fun h => absurd h (by decide))
    refine wp_aload_n dX8_lays_48 rfl rfl ?_
    refine wp_iload_n dX8_lays_49 rfl rfl ?_
    refine wp_puti 69 rfl fl_RX8_116 rfl ⟨by omega, by omega⟩ dX8_lays_50 rfl rfl ?_
    refine wp_vret rfl dX8_lays_53 ?_
    refine wp_aload_n dX8_tells_180 rfl rfl ?_
    refine wp_iload_n dX8_tells_181 rfl rfl ?_
    refine wp_callV0 (d' := d - 1) cv_RX8_442 69 rfl [(0, (s : Int))] [] rfl rfl (Or.inl ⟨_, _, rfl, by decide, rfl, by omega, by omega⟩) (by omega) (Nat.le_of_ble_eq_true rfl) dX8_tells_182 rfl (Nat.le_of_ble_eq_true rfl) (by omega) (loc1 := [(2, 69), (0, (s : Int)), (9, 0), (9, 0)]) rfl ?_
    have g1 : Fr VMl M (mu M 69 4 vv) := Fr.rf.put (by unfold VMl VMs; omega)
    have a1 : Rm (mu M 69 4 vv) (lyA A 5 o (q : Int)) := by
      have h := (show Rm (mu M 69 4 vv) (setS (lyA A 5 o y) 1 vv) from hI.2.1.setT)
      have e := lyA_ly (A := A) (w := 5) (o := o) (y := y) (v := vv)
      rw [hvv] at e h ⊢
      rw [← e]
      exact h
    have I1 : MJ (mu M 69 4 vv) (lyA A 5 o (q : Int)) E := hI.new g1 a1 (show Wf (setS A 1 (q : Int)) from (hW.sSet _)) ⟨by show 0 ≤ (q : Int); omega, by show (q : Int) < M 69 3; omega⟩
    generalize (mu M 69 4 vv) = M1 at g1 a1 I1 ⊢
    refine sp_fom hn I1 (by omega) (hB.fr g1 VMl.nh) hV hs hT (fun M2 I2 F2 => ?_)
    rw [hN]
    have R2 := I2.1
    refine wp_iconst dX8_tells_185 (by decide) ?_
    refine wp_icmp_ne (tgt := 216) dX8_tells_186 (by decide) (fun h186 => ?_) (fun h186 => ?_)
    · refine wp_iinc (loc' := [(2, 69), (0, (s : Int)), (0, o), (0, 5), (0, 6), (0, was), (0, last), (0, st), (0, ct), (0, ls), (0, (vv + (-1)))]) dX8_tells_216 rfl (by omega) rfl ?_
      refine wp_goto (tgt := 166) dX8_tells_219 (by decide) ?_
      have F3 : Fr VMt M M2 := (g1.mono VMl.t).tr F2
      have x3 : M2 69 3 = x := (F3 69 3 (by unfold VMt VMl VMs VMw; omega)).trans hx
      have hf : ¬ (fitF E (fun i => B s (2 + i)) N A 5 o) q = true := by rw [show (fitF E (fun i => B s (2 + i)) N A 5 o) q = false from decide_eq_false h186]; decide
      refine ih M2 (q : Int) _ _ _ _ (m + 1) (by omega) (by omega) x3 I2 (hB.fr F3 VMt.nh) ?_ ?_ ?_ (fun M9 y9 u9 a9 b9 c9 I9 F9 => k M9 y9 u9 a9 b9 c9 I9 (F3.tr F9))
      · show st = (((if (fitF E (fun i => B s (2 + i)) N A 5 o) q = true then 2 ^ q else 0) + tpS (fitF E (fun i => B s (2 + i)) N A 5 o) m (q + 1) : Nat) : Int)
        rw [if_neg hf, Nat.zero_add]
        exact hst
      · show ct = (((if (fitF E (fun i => B s (2 + i)) N A 5 o) q = true then 1 else 0) + tpC (fitF E (fun i => B s (2 + i)) N A 5 o) m (q + 1) : Nat) : Int)
        rw [if_neg hf]
        omega
      · show ls = (if (fitF E (fun i => B s (2 + i)) N A 5 o) q = true then (q : Int) else lstF (fitF E (fun i => B s (2 + i)) N A 5 o) m (q + 1))
        rw [if_neg hf]
        exact hls
    · refine wp_iload dX8_tells_189 rfl ?_
      refine wp_iload dX8_tells_191 rfl ?_
      refine wp_bipush dX8_tells_193 (by decide) (by decide) ?_
      refine wp_icmp_ge (tgt := 205) dX8_tells_195 (by decide) (fun h => absurd h (by omega)) (fun _ => ?_)
      refine wp_iconst dX8_tells_198 (by decide) ?_
      refine wp_iload dX8_tells_199 rfl ?_
      refine wp_ishl dX8_tells_201 ?_
      refine wp_goto (tgt := 206) dX8_tells_202 (by decide) ?_
      refine wp_ior dX8_tells_206 ?_
      refine wp_istore (loc' := [(2, 69), (0, (s : Int)), (0, o), (0, 5), (0, 6), (0, was), (0, last), (0, (bor st (shl 1 vv))), (0, ct), (0, ls), (0, vv)]) dX8_tells_207 (Nat.le_of_ble_eq_true rfl) rfl ?_
      refine wp_iinc (loc' := [(2, 69), (0, (s : Int)), (0, o), (0, 5), (0, 6), (0, was), (0, last), (0, (bor st (shl 1 vv))), (0, (ct + 1)), (0, ls), (0, vv)]) dX8_tells_209 rfl (by have := tpC_le (fitF E (fun i => B s (2 + i)) N A 5 o) m (q + 1); omega) rfl ?_
      refine wp_iload dX8_tells_212 rfl ?_
      refine wp_istore (loc' := [(2, 69), (0, (s : Int)), (0, o), (0, 5), (0, 6), (0, was), (0, last), (0, (bor st (shl 1 vv))), (0, (ct + 1)), (0, vv), (0, vv)]) dX8_tells_214 (Nat.le_of_ble_eq_true rfl) rfl ?_
      refine wp_iinc (loc' := [(2, 69), (0, (s : Int)), (0, o), (0, 5), (0, 6), (0, was), (0, last), (0, (bor st (shl 1 vv))), (0, (ct + 1)), (0, vv), (0, (vv + (-1)))]) dX8_tells_216 rfl (by omega) rfl ?_
      refine wp_goto (tgt := 166) dX8_tells_219 (by decide) ?_
      have F3 : Fr VMt M M2 := (g1.mono VMl.t).tr F2
      have x3 : M2 69 3 = x := (F3 69 3 (by unfold VMt VMl VMs VMw; omega)).trans hx
      have hf : (fitF E (fun i => B s (2 + i)) N A 5 o) q = true := decide_eq_true h186
      refine ih M2 (q : Int) _ _ _ _ (m + 1) (by omega) (by omega) x3 I2 (hB.fr F3 VMt.nh) ?_ ?_ ?_ (fun M9 y9 u9 a9 b9 c9 I9 F9 => k M9 y9 u9 a9 b9 c9 I9 (F3.tr F9))
      · rw [hvv, hst]
        exact tpS_hit (by omega) hf
      · show ct + 1 = (((if (fitF E (fun i => B s (2 + i)) N A 5 o) q = true then 1 else 0) + tpC (fitF E (fun i => B s (2 + i)) N A 5 o) m (q + 1) : Nat) : Int)
        rw [if_pos hf]
        omega
      · show vv = (if (fitF E (fun i => B s (2 + i)) N A 5 o) q = true then (q : Int) else lstF (fitF E (fun i => B s (2 + i)) N A 5 o) m (q + 1))
        rw [if_pos hf]
        exact hvv
