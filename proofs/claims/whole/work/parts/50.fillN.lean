/-! ===== filling, as numbers ===== -/
theorem gvR_st {oh : Option Nat} {many wet got : Int32} {B : Nat → hB} {t : Nat} (h : ¬ (gvR oh many wet got B t).2.1 < many) : ∀ d, gvR oh many wet got B (t + d) = gvR oh many wet got B t
  | 0 => rfl
  | d + 1 => by
    have e : gvR oh many wet got B (t + d + 1) = gvS oh many wet (t + d) (gvR oh many wet got B (t + d)) := hIt_s _ _ _
    rw [show t + (d + 1) = t + d + 1 by omega, e, gvR_st h d]
    unfold gvS
    rw [if_neg (by rw [decide_eq_false h]; simp)]
theorem gvR_s {oh : Option Nat} {many wet got : Int32} {B : Nat → hB} {t : Nat} : gvR oh many wet got B (t + 1) = gvS oh many wet t (gvR oh many wet got B t) := hIt_s _ _ _
theorem gv_acc {oh : Option Nat} {many wet got : Int32} {B : Nat → hB} : ∀ t, (gvR oh many wet got B t).2.1 = got + (gvR oh many wet got B t).2.2
  | 0 => by
    show got = got + 0
    rw [Int32.add_zero]
  | t + 1 => by
    have ih := gv_acc (oh := oh) (many := many) (wet := wet) (got := got) (B := B) t
    rw [gvR_s]
    unfold gvS
    split
    · show (gvR oh many wet got B t).2.1 + 1 = got + ((gvR oh many wet got B t).2.2 + 1)
      rw [ih, Int32.add_assoc]
    · exact ih
abbrev sumG (G : Nat → Int32) (n : Nat) : Int32 := hIt (fun i s => s + G i) 0 n
theorem sum_cg {G G' : Nat → Int32} {n : Nat} (h : ∀ i, i < n → G i = G' i) : sumG G n = sumG G' n := hIt_cg fun i hi s => by show s + G i = s + G' i; rw [h i hi]
theorem sum_s (G : Nat → Int32) (n : Nat) : sumG G (n + 1) = sumG G n + G n := hIt_s _ _ _
theorem sum_up {G : Nat → Int32} {i : Nat} {δ : Int32} : ∀ n, i < n → sumG (fUp G i (G i + δ)) n = sumG G n + δ
  | 0, h => absurd h (Nat.not_lt_zero _)
  | n + 1, h => by
    rw [sum_s, sum_s]
    by_cases e : i = n
    · subst e
      rw [fUp_s, sum_cg (G' := G) (fun k hk => fUp_n (by omega)), Int32.add_assoc]
    · rw [fUp_n (fun q => e q.symm), sum_up n (by omega), Int32.add_assoc, Int32.add_comm δ, ← Int32.add_assoc]
theorem fl_sum {W : Nat → Option Nat} {Mn Dr G : Nat → Int32} {B : Nat → hB} {n : Nat} : ∀ i, i ≤ n → sumG (flR W Mn Dr G B i).2.1 n = sumG G n + (flR W Mn Dr G B i).2.2
  | 0, _ => by
    show sumG G n = sumG G n + 0
    rw [Int32.add_zero]
  | i + 1, h => by
    have ih := fl_sum (W := W) (Mn := Mn) (Dr := Dr) (G := G) (B := B) (n := n) i (by omega)
    have e : flR W Mn Dr G B (i + 1) = flS W Mn Dr i (flR W Mn Dr G B i) := hIt_s _ _ _
    rw [e]
    generalize flR W Mn Dr G B i = x at ih
    unfold flS
    show sumG (fUp x.2.1 i (gvR (W i) (Mn i) (Dr i) (x.2.1 i) x.1 40).2.1) n = sumG G n + (x.2.2 + (gvR (W i) (Mn i) (Dr i) (x.2.1 i) x.1 40).2.2)
    rw [gv_acc 40, sum_up n (by omega), ih, Int32.add_assoc]
theorem givn_f (S : hS) : givn (sFill S).2 = givn S + (sFill S).1 := fl_sum (W := fun i => some (sW S i)) (Mn := sM S) (Dr := sD S) (G := sG S) (B := sB S) (n := sO S) (sO S) (Nat.le_refl _)
theorem fl_hi {W : Nat → Option Nat} {Mn Dr G : Nat → Int32} {B : Nat → hB} {k : Nat} : ∀ i, i ≤ k → (flR W Mn Dr G B i).2.1 k = G k
  | 0, _ => rfl
  | i + 1, h => by
    have ih := fl_hi (W := W) (Mn := Mn) (Dr := Dr) (G := G) (B := B) (k := k) i (by omega)
    have e : flR W Mn Dr G B (i + 1) = flS W Mn Dr i (flR W Mn Dr G B i) := hIt_s _ _ _
    rw [e]
    unfold flS
    show fUp (flR W Mn Dr G B i).2.1 i _ k = _
    rw [fUp_n (by omega)]; exact ih
theorem fl_lt {W : Nat → Option Nat} {Mn Dr G : Nat → Int32} {B : Nat → hB} {n : Nat} (hB : ∀ i, i < 40 → ∀ j, (B i).1 = some j → j < n) : ∀ t, ∀ i, i < 40 → ∀ j, ((flR W Mn Dr G B t).1 i).1 = some j → j < n
  | 0 => hB
  | t + 1 => by
    have ih := fl_lt (W := W) (Mn := Mn) (Dr := Dr) (G := G) hB t
    have e : flR W Mn Dr G B (t + 1) = flS W Mn Dr t (flR W Mn Dr G B t) := hIt_s _ _ _
    rw [e]
    unfold flS
    exact gvR_1 ih 40
