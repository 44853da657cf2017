/-! ===== calls that make nothing ===== -/
section WPG
variable {l : Launch} {g : Gw} {d a b n : Nat} {μ μ' : Md} {pc : Nat} {st loc : List Wd} {M : Mm} {Q : Option Wd → Mm → Prop}
theorem wp_callV0 {idx np : Nat} (hC : CV μ.1.cls idx μ' np) (i : Nat) {x : Int} (hx : x = (i : Int)) (ar rest : List Wd) (hst : st = ar.reverse ++ (2, x) :: rest) (hnp : ar.length = np) (hrec : isC g i μ'.1.cls) (hi : i < 1000 → i ≤ n) (hrest : rest.length ≤ 4) (hd : decode μ.2.1 pc = .ok (.invokevirtual idx, 3)) (hml : loc.length = μ.2.2.1) (hlen : (el ((2, x) :: ar)).length ≤ μ'.2.2.1)
    {d' : Nat} (hdd : d' + 1 ≤ d) {loc1 : List Wd} (hloc : loc0 ((2, x) :: ar) μ'.2.2.1 = loc1) (kk : Wp l g d' 0 0 n μ' 0 [] loc1 M (fun r M' => Wp l g d a b n μ (pc + 3) (r.toList ++ rest) loc M' Q)) : Wp l g d a b n μ pc st loc M Q := by
  subst hloc
  have h := wp_callV (a1 := 0) (b1 := 0) (a := a) (b := b) (Q := Q) hC i hx ar rest hst hnp hrec hi hrest hd hml hlen hdd kk
  rw [Nat.zero_add, Nat.zero_add] at h
  exact h
theorem wp_callS0 {idx np : Nat} (hC : CS μ.1.cls idx μ' np) (ar rest : List Wd) (hst : st = ar.reverse ++ rest) (hnp : ar.length = np) (hrest : rest.length ≤ 4) (hd : decode μ.2.1 pc = .ok (.invokestatic idx, 3)) (hml : loc.length = μ.2.2.1) (hlen : (el ar).length ≤ μ'.2.2.1)
    {d' : Nat} (hdd : d' + 1 ≤ d) {loc1 : List Wd} (hloc : loc0 ar μ'.2.2.1 = loc1) (kk : Wp l g d' 0 0 n μ' 0 [] loc1 M (fun r M' => Wp l g d a b n μ (pc + 3) (r.toList ++ rest) loc M' Q)) : Wp l g d a b n μ pc st loc M Q := by
  subst hloc
  have h := wp_callS (a1 := 0) (b1 := 0) (a := a) (b := b) (Q := Q) hC ar rest hst hnp hrest hd hml hlen hdd kk
  rw [Nat.zero_add, Nat.zero_add] at h
  exact h
end WPG
