/-! ===== filling keeps what holds ===== -/
theorem gvR_B {oh : Option Nat} {many wet got : Int32} {B : Nat → hB} : ∀ t i, (gvR oh many wet got B t).1 i = B i ∨ (gvR oh many wet got B t).1 i = emp
  | 0, i => Or.inl rfl
  | t + 1, i => by
    rw [gvR_s]
    unfold gvS
    split
    · show fUp (gvR oh many wet got B t).1 (ixT t) (none, 0, 0, 0, 0) i = B i ∨ fUp (gvR oh many wet got B t).1 (ixT t) (none, 0, 0, 0, 0) i = emp
      by_cases q : i = ixT t
      · rw [q, fUp_s]; exact Or.inr rfl
      · rw [fUp_n q]; exact gvR_B t i
    · exact gvR_B t i
theorem gvR_g {oh : Option Nat} {wet : Int32} {B : Nat → hB} {m g : Nat} (hm : m ≤ 9) (hg : g ≤ m) : ∀ t, ∃ g2 : Nat, g ≤ g2 ∧ g2 ≤ m ∧ (gvR oh (nI m) wet (nI g) B t).2.1 = nI g2 ∧ (gvR oh (nI m) wet (nI g) B t).2.2 = nI (g2 - g)
  | 0 => ⟨g, Nat.le_refl _, hg, rfl, by rw [Nat.sub_self]; rfl⟩
  | t + 1 => by
    obtain ⟨g2, h1, h2, h3, h4⟩ := gvR_g (oh := oh) (wet := wet) (B := B) hm hg t
    rw [gvR_s]
    unfold gvS
    split
    · rename_i hc
      simp only [Bool.and_eq_true, decide_eq_true_eq] at hc
      have hl := hc.1
      rw [h3] at hl
      have hl2 : g2 < m := (nI_ltI (by omega) (by omega)).mp hl
      refine ⟨g2 + 1, by omega, by omega, ?_, ?_⟩
      · show (gvR oh (nI m) wet (nI g) B t).2.1 + 1 = _
        rw [h3, nI_1]
      · show (gvR oh (nI m) wet (nI g) B t).2.2 + 1 = _
        rw [h4, nI_1, show g2 - g + 1 = g2 + 1 - g by omega]
    · exact ⟨g2, h1, h2, h3, h4⟩
theorem flR_st {W : Nat → Option Nat} {Mn Dr G : Nat → Int32} {B : Nat → hB} {n : Nat} : flR W Mn Dr G B (n + 1) = ((gvR (W n) (Mn n) (Dr n) ((flR W Mn Dr G B n).2.1 n) (flR W Mn Dr G B n).1 40).1, fUp (flR W Mn Dr G B n).2.1 n (gvR (W n) (Mn n) (Dr n) ((flR W Mn Dr G B n).2.1 n) (flR W Mn Dr G B n).1 40).2.1, (flR W Mn Dr G B n).2.2 + (gvR (W n) (Mn n) (Dr n) ((flR W Mn Dr G B n).2.1 n) (flR W Mn Dr G B n).1 40).2.2) := hIt_s _ _ _
theorem flR_B {W : Nat → Option Nat} {Mn Dr G : Nat → Int32} {B : Nat → hB} : ∀ n i, (flR W Mn Dr G B n).1 i = B i ∨ (flR W Mn Dr G B n).1 i = emp
  | 0, i => Or.inl rfl
  | n + 1, i => by
    rw [flR_st]
    rcases gvR_B (oh := W n) (many := Mn n) (wet := Dr n) (got := (flR W Mn Dr G B n).2.1 n) (B := (flR W Mn Dr G B n).1) 40 i with h | h
    · show (gvR (W n) (Mn n) (Dr n) ((flR W Mn Dr G B n).2.1 n) (flR W Mn Dr G B n).1 40).1 i = _ ∨ _
      rw [h]
      exact flR_B n i
    · exact Or.inr h
theorem flR_g {W : Nat → Option Nat} {Mn Dr G : Nat → Int32} {B : Nat → hB} {N : Nat} (hG : gOk N Mn G) : ∀ n, n ≤ N → gOk N Mn (flR W Mn Dr G B n).2.1
  | 0, _ => hG
  | n + 1, h => by
    have ih := flR_g (W := W) (Dr := Dr) (B := B) hG n (by omega)
    obtain ⟨m, g, h1, h2, h3, h4⟩ := ih n (by omega)
    rw [flR_st]
    show gOk N Mn (fUp _ n _)
    obtain ⟨g2, -, q2, q3, -⟩ := gvR_g (oh := W n) (wet := Dr n) (B := (flR W Mn Dr G B n).1) h1 h2 40
    rw [h4, h3, q3]
    exact ih.up h1 q2 h3
theorem sI2.fill {S : hS} {D : Nat} (h : sI2 S D) : sI2 (sFill S).2 D := by
  have hg0 : gOk (sO S) (sM S) (sG S) := fun i hi => by
    obtain ⟨-, m, d, g, -, z2, -, z4, z5, -, z7⟩ := h.2.2.2.2 i hi
    exact ⟨m, g, z2, z4, z5, z7⟩
  refine ⟨h.1, h.2.1, h.2.2.1, fun i hi => ?_, fun i hi => ?_⟩
  · show bOk (sN S) D ((flR (fun i => some (sW S i)) (sM S) (sD S) (sG S) (sB S) (sO S)).1 i)
    rcases flR_B (W := fun i => some (sW S i)) (Mn := sM S) (Dr := sD S) (G := sG S) (B := sB S) (sO S) i with q | q
    · rw [q]; exact h.2.2.2.1 i hi
    · rw [q]; exact Or.inl rfl
  · obtain ⟨q0, m, d, g, z1, z2, z3, z4, z5, z6, z7⟩ := h.2.2.2.2 i hi
    obtain ⟨m2, g2, y1, y2, y3, y4⟩ := flR_g (W := fun i => some (sW S i)) (Dr := sD S) (B := sB S) hg0 (sO S) (Nat.le_refl _) i hi
    have e : m2 = m := (nI_eq (by omega) (by omega)).mp (y3.symm.trans z5)
    subst e
    exact ⟨q0, m2, d, g2, z1, z2, z3, y2, z5, z6, y4⟩
/-! ===== the simulation: a bundle more, an order more, a herb more ===== -/
theorem smB.new {Γ : hGam} {M : hM} {bd : Nat → Option Nat} {B : Nat → hB} (h : smB Γ M bd B) {i a j : Nat} {f : Nat → Int32} {b : hB} (ha : M a = none) (hb : b.1 = some j) (hc : smC j b f) : smB Γ (hU M a (aI Γ 5 f)) (fUp bd i (some a)) (fUp B i b) := by
  have hne : ∀ i2 a2, i2 < 40 → bd i2 = some a2 → a2 ≠ a := fun i2 a2 h2 e2 q => by
    obtain ⟨j2, f2, -, z, -⟩ := h.1 i2 h2 a2 e2
    rw [q, ha] at z; cases z
  refine ⟨fun i2 hi2 a2 e2 => ?_, fun i2 hi2 e2 => ?_, fun i2 j2 a2 h1 h2 e1 e2 => ?_⟩
  · by_cases q : i2 = i
    · subst q
      rw [fUp_s] at e2
      cases e2
      exact ⟨j, f, by rw [fUp_s]; exact hb, hU_s _ _ _, by rw [fUp_s]; exact hc⟩
    · rw [fUp_n q] at e2 ⊢
      obtain ⟨j2, f2, z1, z2, z3⟩ := h.1 i2 hi2 a2 e2
      exact ⟨j2, f2, z1, (hU_n (hne i2 a2 hi2 e2)).trans z2, z3⟩
  · by_cases q : i2 = i
    · subst q; rw [fUp_s] at e2; cases e2
    · rw [fUp_n q] at e2 ⊢; exact h.2.1 i2 hi2 e2
  · by_cases q : i2 = i
    · by_cases q2 : j2 = i
      · omega
      · rw [q, fUp_s] at e1
        rw [fUp_n q2] at e2
        cases e1
        exact absurd rfl (hne j2 _ h2 e2)
    · by_cases q2 : j2 = i
      · rw [q2, fUp_s] at e2
        rw [fUp_n q] at e1
        cases e2
        exact absurd rfl (hne i2 _ h1 e1)
      · rw [fUp_n q] at e1; rw [fUp_n q2] at e2; exact h.2.2 i2 j2 a2 h1 h2 e1 e2
theorem smO.add {Γ : hGam} {M M1 : hM} {oa n o b : Nat} {ob : Nat → Nat} {W : Nat → Nat} {Mn Dr G : Nat → Int32} {f : Nat → Int32} {g g2 : Nat → Option Nat} (hk : ∀ a w e, M a = some (w, e) → M1 a = some (w, e)) (hO : M oa = some (true, aR Γ n g)) (hE : ∀ i, i < n → g i = some (ob i) ∧ ∃ f : Nat → Int32, M (ob i) = some (true, aI Γ 4 f) ∧ f 0 = nI (W i) ∧ f 1 = Mn i ∧ f 2 = Dr i ∧ f 3 = G i) (hI : hbI ob n) (hn : M o = none) (ho : M1 o = some (true, aI Γ 4 f)) (hb : M1 b = some (true, aR Γ (n + 1) g2)) (h2 : ∀ i, i < n → g2 i = g i) (h3 : g2 n = some o) {j : Nat} {m d : Int32} (f0 : f 0 = nI j) (f1 : f 1 = m) (f2 : f 2 = d) (f3 : f 3 = 0) : smO Γ M1 b (n + 1) (fUp ob n o) (fUp W n j) (fUp Mn n m) (fUp Dr n d) (fUp G n 0) := by
  refine ⟨g2, hb, fun i hi => ?_, fun i k hi hk2 q => ?_⟩
  · by_cases e : i = n
    · subst e
      rw [fUp_s, fUp_s, fUp_s, fUp_s, fUp_s]
      exact ⟨h3, f, ho, f0, f1, f2, f3⟩
    · rw [fUp_n e, fUp_n e, fUp_n e, fUp_n e, fUp_n e]
      obtain ⟨z1, f9, z2, z3⟩ := hE i (by omega)
      exact ⟨(h2 i (by omega)).trans z1, f9, hk _ _ _ z2, z3⟩
  · have hne : ∀ i, i < n → ob i ≠ o := fun i hi q => by
      obtain ⟨-, f9, z2, -⟩ := hE i hi
      rw [q, hn] at z2; cases z2
    by_cases e1 : i = n <;> by_cases e2 : k = n
    · omega
    · rw [e1, fUp_s, fUp_n e2] at q; exact absurd q.symm (hne k (by omega))
    · rw [e2, fUp_s, fUp_n e1] at q; exact absurd q (hne i (by omega))
    · rw [fUp_n e1, fUp_n e2] at q; exact hI i k (by omega) (by omega) q
theorem smH.add {Γ : hGam} {M M1 : hM} {n o b : Nat} {E L : Nat → Int32} {f : Nat → Int32} {g g2 : Nat → Option Nat} (hk : ∀ a w e, M a = some (w, e) → M1 a = some (w, e)) (hE : ∀ i, i < n → ∃ (a : Nat) (f : Nat → Int32), g i = some a ∧ M a = some (true, aI Γ 2 f) ∧ f 0 = E i ∧ f 1 = L i) (ho : M1 o = some (true, aI Γ 2 f)) (hb : M1 b = some (true, aR Γ (n + 1) g2)) (h2 : ∀ i, i < n → g2 i = g i) (h3 : g2 n = some o) {e l : Int32} (f0 : f 0 = e) (f1 : f 1 = l) : smH Γ M1 b (n + 1) (fUp E n e) (fUp L n l) := by
  refine ⟨g2, hb, fun i hi => ?_⟩
  by_cases q : i = n
  · subst q
    rw [fUp_s, fUp_s]
    exact ⟨o, f, h3, ho, f0, f1⟩
  · rw [fUp_n q, fUp_n q]
    obtain ⟨a, f9, z1, z2, z3⟩ := hE i (by omega)
    exact ⟨a, f9, (h2 i (by omega)).trans z1, hk _ _ _ z2, z3⟩
theorem givn_ord {S : hS} {j : Nat} {m w : Int32} : givn (ordS S j m w) = givn S := by
  show hIt (fun i s => s + fUp (sG S) (sO S) 0 i) 0 (sO S + 1) = hIt (fun i s => s + sG S i) 0 (sO S)
  rw [hIt_s]
  show hIt (fun i s => s + fUp (sG S) (sO S) 0 i) 0 (sO S) + fUp (sG S) (sO S) 0 (sO S) = _
  rw [fUp_s, hIt_cg (g := fun i s => s + sG S i) (fun i hi s => by show s + fUp (sG S) (sO S) 0 i = s + sG S i; rw [fUp_n (by omega)]), Int32.add_zero]
/-! ===== the law's own state ===== -/
def lawS (Γ : hGam) (M : hM) (x y : Nat) (S : hS) (D : Nat) : Prop := ltP Γ M x S ∧ smP Γ M y S ∧ sI2 S D ∧ 0 < sN S
theorem smP.cls {Γ : hGam} {M M1 : hM} {x D : Nat} {S : hS} (h : smP Γ M x S) (hI : sI2 S D) (hk : hKp noCls M M1) : smP Γ M1 x S := h.kp hk simK_cls hI.1.1 hI.1.2
