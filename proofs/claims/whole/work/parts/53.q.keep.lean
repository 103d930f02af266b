/-! ===== what holds in every state stays so ===== -/
def okB (n : Nat) (v : hB) : Prop := ∀ j, v.1 = some j → j < n ∧ 0 ≤ v.2.1 ∧ v.2.1 ≤ 100 ∧ 0 ≤ v.2.2.1 ∧ v.2.2.1 ≤ 100
theorem okB.emp {n : Nat} : okB n emp := fun j hj => by
  have h9 : (none : Option Nat) = some j := hj
  cases h9
theorem sInv.bun {S : hS} (h : sInv S) {B : Nat → hB} (hB : ∀ i, i < 40 → okB (sN S) (B i)) : sInv (setB S B) := ⟨h.1, h.2.1, hB, h.2.2.2.1, h.2.2.2.2⟩
theorem sInv.ok {S : hS} (h : sInv S) : ∀ i, i < 40 → okB (sN S) (sB S i) := h.2.2.1
theorem okB.up {n : Nat} {B : Nat → hB} (h : ∀ i, i < 40 → okB n (B i)) {k : Nat} {b : hB} (hb : okB n b) : ∀ i, i < 40 → okB n (fUp B k b i) := fun i hi => by
  by_cases e : i = k
  · subst e; rw [fUp_s]; exact hb
  · rw [fUp_n e]; exact h i hi
theorem nf {b : Bool} (h : ¬ b = false) : b = true := by cases b <;> simp_all
theorem sInv.herb {S : hS} (h : sInv S) (e l : Int32) : sInv (sHerb S e l).2.2 := by
  unfold sHerb
  split
  · exact h
  · split
    · exact h
    · split
      · exact h
      · rename_i a b c
        have c2 : sN S < 6 := Decidable.not_not.mp c
        exact ⟨c2, h.2.1, fun i hi j hj => ⟨Nat.lt_succ_of_lt (h.2.2.1 i hi j hj).1, (h.2.2.1 i hi j hj).2⟩, fun i hi => Nat.lt_succ_of_lt (h.2.2.2.1 i hi), h.2.2.2.2⟩
theorem sInv.hang {S : hS} (h : sInv S) (p q k w : Int32) : sInv (sHang S p q k w).2.2 := by
  unfold sHang
  split
  · exact h
  · split
    · exact h
    · split
      · exact h
      · split
        · exact h
        · rename_i a b c d
          have hk := (isH_ex (nf b)).1
          have hw := nf c
          unfold inR at hw
          simp only [Bool.and_eq_true, decide_eq_true_eq] at hw
          exact h.bun (okB.up h.ok (fun j hj => by
            have h9 : some (hNo k) = some j := hj
            cases h9
            exact ⟨hk, hw.1, hw.2, hw.1, hw.2⟩))
theorem sInv.take {S : hS} (h : sInv S) (p q : Int32) : sInv (sTake S p q).2.2 := by
  unfold sTake
  split
  · exact h
  · split
    · exact h
    · exact h.bun (okB.up h.ok okB.emp)
theorem sInv.move {S : hS} (h : sInv S) (p q p2 q2 : Int32) : sInv (sMove S p q p2 q2).2.2 := by
  unfold sMove
  split
  · exact h
  · split
    · exact h
    · split
      · exact h
      · split
        · exact h
        · rename_i a b c d
          exact h.bun (okB.up (okB.up h.ok (h.ok _ (isHk_lt (nf a)))) okB.emp)
theorem okB.turn {n : Nat} {B : Nat → hB} (h : ∀ i, i < 40 → okB n (B i)) (s : Nat) : ∀ i, i < 40 → okB n (vTurn s B i) := fun i hi => by
  unfold vTurn
  split
  · intro j hj
    obtain ⟨a, b, c, d, e⟩ := h i hi j hj
    exact ⟨a, d, e, b, c⟩
  · exact h i hi
theorem sInv.turn {S : hS} (h : sInv S) (p : Int32) : sInv (sTurn S p).2.2 := by
  unfold sTurn
  split
  · exact h
  · exact h.bun (okB.turn h.ok _)
theorem sInv.setW {S : hS} (h : sInv S) (p : Int32) : sInv (sSetW S p).2.2 := by
  unfold sSetW
  split
  · exact h
  · exact h
theorem sInv.ord {S : hS} (h : sInv S) (k m w : Int32) : sInv (sOrd S k m w).2.2 := by
  unfold sOrd
  split
  · exact h
  · split
    · exact h
    · split
      · exact h
      · split
        · exact h
        · rename_i a b c d
          have hk := (isH_ex (nf a)).1
          have hm := nf b
          unfold inR at hm
          simp only [Bool.and_eq_true, decide_eq_true_eq] at hm
          have d2 : sO S < 6 := Decidable.not_not.mp d
          refine ⟨h.1, d2, h.2.2.1, fun i hi => ?_, fun i hi => ?_⟩
          · show fUp (sW S) (sO S) (hNo k) i < sN S
            by_cases e : i = sO S
            · subst e; rw [fUp_s]; exact hk
            · rw [fUp_n e]; exact h.2.2.2.1 i (by have : i < sO S + 1 := hi; omega)
          · show fUp (sG S) (sO S) 0 i ≤ fUp (sM S) (sO S) m i
            by_cases e : i = sO S
            · subst e; rw [fUp_s, fUp_s]; exact Int32.le_trans (by decide) hm.1
            · rw [fUp_n e, fUp_n e]; exact h.2.2.2.2 i (by have : i < sO S + 1 := hi; omega)
theorem i32_lo (x : Int32) : -2147483648 ≤ x.toInt := by have := Int32.le_toInt x; omega
theorem i32_hi (x : Int32) : x.toInt < 2147483648 := by have := Int32.toInt_lt x; omega
theorem lt_le1 {x y : Int32} (h : x < y) : x + 1 ≤ y := by
  rw [Int32.lt_iff_toInt_lt] at h
  have h1 := i32_lo x
  have h2 := i32_hi y
  rw [Int32.le_iff_toInt_le, Int32.toInt_add, show (1 : Int32).toInt = 1 from rfl, Int.bmod_eq_of_le (by omega) (by omega)]
  omega
theorem gv_ok {n : Nat} {oh : Option Nat} {many wet got : Int32} {B : Nat → hB} (hB : ∀ i, i < 40 → okB n (B i)) (hg : got ≤ many) : ∀ t, (∀ i, i < 40 → okB n ((gvR oh many wet got B t).1 i)) ∧ (gvR oh many wet got B t).2.1 ≤ many
  | 0 => ⟨hB, hg⟩
  | t + 1 => by
    obtain ⟨a, b⟩ := gv_ok (oh := oh) (wet := wet) hB hg t
    rw [gvR_s]
    unfold gvS
    split
    · rename_i c
      simp only [Bool.and_eq_true, decide_eq_true_eq] at c
      exact ⟨okB.up a okB.emp, lt_le1 c.1⟩
    · exact ⟨a, b⟩
theorem fl_ok {n k : Nat} {W : Nat → Option Nat} {Mn Dr G : Nat → Int32} {B : Nat → hB} (hB : ∀ i, i < 40 → okB n (B i)) (hg : ∀ i, i < k → G i ≤ Mn i) : ∀ t, t ≤ k → (∀ i, i < 40 → okB n ((flR W Mn Dr G B t).1 i)) ∧ ∀ i, i < k → (flR W Mn Dr G B t).2.1 i ≤ Mn i
  | 0, _ => ⟨hB, hg⟩
  | t + 1, ht => by
    obtain ⟨a, b⟩ := fl_ok (W := W) (Dr := Dr) hB hg t (by omega)
    have e : flR W Mn Dr G B (t + 1) = flS W Mn Dr t (flR W Mn Dr G B t) := hIt_s _ _ _
    rw [e]
    generalize flR W Mn Dr G B t = x at a b
    unfold flS
    obtain ⟨c, d⟩ := gv_ok (oh := W t) (wet := Dr t) a (b t (by omega)) 40
    refine ⟨c, fun i hi => ?_⟩
    show fUp x.2.1 t _ i ≤ Mn i
    by_cases e1 : i = t
    · subst e1; rw [fUp_s]; exact d
    · rw [fUp_n e1]; exact b i hi
theorem sInv.fill {S : hS} (h : sInv S) : sInv (sFill S).2 := by
  obtain ⟨a, b⟩ := fl_ok (W := fun i => some (sW S i)) (Dr := sD S) h.ok h.2.2.2.2 (sO S) (Nat.le_refl _)
  exact ⟨h.1, h.2.1, a, h.2.2.2.1, b⟩
theorem mx0_nn (x : Int32) : 0 ≤ mx0 x := by
  unfold mx0
  split
  · rename_i a; exact Int32.le_of_lt a
  · exact Int32.le_refl _
theorem mx0_le {f g : Int32} (hf : 0 ≤ f) (hf2 : f ≤ 100) (hg : 0 ≤ g) : mx0 (f - g) ≤ 100 := by
  unfold mx0
  split
  · rw [Int32.le_iff_toInt_le] at hf hf2 hg ⊢
    have z0 : (0 : Int32).toInt = 0 := rfl
    have z1 : (100 : Int32).toInt = 100 := rfl
    rw [z0] at hf hg
    rw [z1] at hf2 ⊢
    have h2 := i32_hi g
    rw [Int32.toInt_sub, Int.bmod_eq_of_le (by omega) (by omega)]
    omega
  · decide
theorem half_nn {g : Int32} (hg : 0 ≤ g) : 0 ≤ g / 2 := by
  rw [Int32.le_iff_toInt_le] at hg ⊢
  have z0 : (0 : Int32).toInt = 0 := rfl
  have z2 : (2 : Int32).toInt = 2 := rfl
  rw [z0] at hg ⊢
  have h2 := i32_hi g
  rw [Int32.toInt_div, z2, Int.tdiv_eq_ediv_of_nonneg hg, Int.bmod_eq_of_le (by omega) (by omega)]
  omega
theorem okB.day {n : Nat} {eH lH : Nat → Int32} {win dmp : Int32} {B : Nat → hB} (h : ∀ i, i < 40 → okB n (B i)) : ∀ i, i < 40 → okB n (vDay eH lH win dmp B i) := fun i hi => by
  cases hb : (B i).1 with
  | none =>
    unfold vDay
    rw [hb]
    exact h i hi
  | some k =>
    rw [vDay_s hb]
    intro j hj
    have hj2 : (B i).1 = some j := hj
    obtain ⟨a, b, c, d, e⟩ := h i hi j hj2
    have g0 : 0 ≤ dFrc (eH k) win dmp B i := mx0_nn _
    exact ⟨a, mx0_nn _, mx0_le b c g0, mx0_nn _, mx0_le d e (half_nn g0)⟩
theorem okB.days {n : Nat} {eH lH : Nat → Int32} {win dmp : Int32} {B : Nat → hB} (h : ∀ i, i < 40 → okB n (B i)) : ∀ t, ∀ i, i < 40 → okB n (vDays eH lH win dmp B t i)
  | 0 => h
  | t + 1 => by
    rw [vDays_s]
    exact okB.day (okB.days h t)
theorem sInv.pass {S : hS} (h : sInv S) (d dmp : Int32) : sInv (sPass S d dmp).2.2 := by
  unfold sPass
  split
  · exact h
  · split
    · exact h
    · exact ⟨h.1, h.2.1, okB.days h.ok _, h.2.2.2.1, h.2.2.2.2⟩
