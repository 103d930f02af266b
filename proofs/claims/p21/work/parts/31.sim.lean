/-! ===== the simulation's picture ===== -/
abbrev givn (S : hS) : Int32 := hIt (fun i s => s + sG S i) 0 (sO S)
/-- the herbs' rows -/
def smH (Γ : hGam) (M : hM) (ha n : Nat) (E L : Nat → Int32) : Prop := ∃ hf : Nat → Option Nat, M ha = some (true, aR Γ n hf) ∧ ∀ i, i < n → ∃ (a : Nat) (f : Nat → Int32), hf i = some a ∧ M a = some (true, aI Γ 2 f) ∧ f 0 = E i ∧ f 1 = L i
def smO (Γ : hGam) (M : hM) (oa n : Nat) (ob : Nat → Nat) (W : Nat → Nat) (Mn Dr G : Nat → Int32) : Prop := ∃ g : Nat → Option Nat, M oa = some (true, aR Γ n g) ∧ (∀ i, i < n → g i = some (ob i) ∧ ∃ f : Nat → Int32, M (ob i) = some (true, aI Γ 4 f) ∧ f 0 = nI (W i) ∧ f 1 = Mn i ∧ f 2 = Dr i ∧ f 3 = G i) ∧ hbI ob n
/-- the strings: rx their rows, bd the bundles' places by hook -/
def smL (Γ : hGam) (M : hM) (la : Nat) (rx : Nat → Nat) (bd : Nat → Option Nat) : Prop := ∃ lf : Nat → Option Nat, M la = some (true, aRR Γ 5 lf) ∧ (∀ t, t < 5 → lf t = some (rx t) ∧ ∃ rf : Nat → Option Nat, M (rx t) = some (true, aR Γ 8 rf) ∧ ∀ h, h < 8 → rf h = bd (t * 8 + h)) ∧ hbI rx 5
def smC (j : Nat) (b : hB) (f : Nat → Int32) : Prop := f 0 = nI j ∧ f 1 = b.2.1 ∧ f 2 = b.2.2.1 ∧ f 3 = b.2.2.2.1 ∧ f 4 = b.2.2.2.2
def smB (Γ : hGam) (M : hM) (bd : Nat → Option Nat) (B : Nat → hB) : Prop := (∀ i, i < 40 → ∀ a, bd i = some a → ∃ (j : Nat) (f : Nat → Int32), (B i).1 = some j ∧ M a = some (true, aI Γ 5 f) ∧ smC j (B i) f) ∧ (∀ i, i < 40 → bd i = none → (B i).1 = none) ∧ (∀ i j a, i < 40 → j < 40 → bd i = some a → bd j = some a → i = j)
def smQ (Γ : hGam) (M : hM) (x : Nat) (S : hS) (ha oa la : Nat) (ob rx : Nat → Nat) (bd : Nat → Option Nat) : Prop :=
  M x = some (true, oSim (sDay S) (sWin S) (givn S) (some ha) (some oa) (some la)) ∧ smH Γ M ha (sN S) (sE S) (sL S) ∧ smO Γ M oa (sO S) ob (sW S) (sM S) (sD S) (sG S) ∧ smL Γ M la rx bd ∧ smB Γ M bd (sB S)
def smP (Γ : hGam) (M : hM) (x : Nat) (S : hS) : Prop := ∃ (ha oa la : Nat) (ob rx : Nat → Nat) (bd : Nat → Option Nat), smQ Γ M x S ha oa la ob rx bd
theorem smQ.P {Γ : hGam} {M : hM} {x : Nat} {S : hS} {ha oa la : Nat} {ob rx : Nat → Nat} {bd : Nat → Option Nat} (h : smQ Γ M x S ha oa la ob rx bd) : smP Γ M x S := ⟨ha, oa, la, ob, rx, bd, h⟩
theorem smH.kp {Γ : hGam} {M M1 : hM} {ha n : Nat} {E L : Nat → Int32} (h : smH Γ M ha n E L) {P : kK → Bool} (hk : hKp P M M1) (h12 : P (12, n) = true) (h2 : P (10, 2) = true) : smH Γ M1 ha n E L := by
  obtain ⟨hf, a1, a2⟩ := h
  exact ⟨hf, hk _ _ _ a1 h12, fun i hi => by
    obtain ⟨a, f, b1, b2, b3⟩ := a2 i hi
    exact ⟨a, f, b1, hk _ _ _ b2 h2, b3⟩⟩
theorem smO.kp {Γ : hGam} {M M1 : hM} {oa n : Nat} {ob : Nat → Nat} {W : Nat → Nat} {Mn Dr G : Nat → Int32} (h : smO Γ M oa n ob W Mn Dr G) {P : kK → Bool} (hk : hKp P M M1) (h12 : P (12, n) = true) (h4 : P (10, 4) = true) : smO Γ M1 oa n ob W Mn Dr G := by
  obtain ⟨g, a1, a2, a3⟩ := h
  exact ⟨g, hk _ _ _ a1 h12, fun i hi => by
    obtain ⟨b1, f, b2, b3⟩ := a2 i hi
    exact ⟨b1, f, hk _ _ _ b2 h4, b3⟩, a3⟩
theorem smL.kp {Γ : hGam} {M M1 : hM} {la : Nat} {rx : Nat → Nat} {bd : Nat → Option Nat} (h : smL Γ M la rx bd) {P : kK → Bool} (hk : hKp P M M1) (h12 : P (12, 5) = true) (h8 : P (12, 8) = true) : smL Γ M1 la rx bd := by
  obtain ⟨lf, a1, a2, a3⟩ := h
  exact ⟨lf, hk _ _ _ a1 h12, fun i hi => by
    obtain ⟨b1, f, b2, b3⟩ := a2 i hi
    exact ⟨b1, f, hk _ _ _ b2 h8, b3⟩, a3⟩
theorem smB.kp {Γ : hGam} {M M1 : hM} {bd : Nat → Option Nat} {B : Nat → hB} (h : smB Γ M bd B) {P : kK → Bool} (hk : hKp P M M1) (h5 : P (10, 5) = true) : smB Γ M1 bd B := ⟨fun i hi a ha => by
    obtain ⟨j, f, b1, b2, b3⟩ := h.1 i hi a ha
    exact ⟨j, f, b1, hk _ _ _ b2 h5, b3⟩, h.2⟩
/-- what a reader of the simulation asks to be kept -/
def simK (P : kK → Bool) : Prop := P (6, 0) = true ∧ (∀ n, n ≤ 8 → P (12, n) = true) ∧ P (10, 2) = true ∧ P (10, 4) = true ∧ P (10, 5) = true
theorem smQ.kp {Γ : hGam} {M M1 : hM} {x : Nat} {S : hS} {ha oa la : Nat} {ob rx : Nat → Nat} {bd : Nat → Option Nat} (h : smQ Γ M x S ha oa la ob rx bd) {P : kK → Bool} (hk : hKp P M M1) (hP : simK P) (hn : sN S ≤ 6) (ho : sO S ≤ 6) : smQ Γ M1 x S ha oa la ob rx bd :=
  ⟨hk _ _ _ h.1 hP.1, h.2.1.kp hk (hP.2.1 _ (by omega)) hP.2.2.1, h.2.2.1.kp hk (hP.2.1 _ (by omega)) hP.2.2.2.1, h.2.2.2.1.kp hk (hP.2.1 _ (by omega)) (hP.2.1 _ (by omega)), h.2.2.2.2.kp hk hP.2.2.2.2⟩
theorem smP.kp {Γ : hGam} {M M1 : hM} {x : Nat} {S : hS} (h : smP Γ M x S) {P : kK → Bool} (hk : hKp P M M1) (hP : simK P) (hn : sN S ≤ 6) (ho : sO S ≤ 6) : smP Γ M1 x S := by
  obtain ⟨ha, oa, la, ob, rx, bd, hq⟩ := h
  exact (hq.kp hk hP hn ho).P
theorem simK_cls : simK noCls := ⟨rfl, fun n h => by
  show (decide (6 ≤ 12) && !(decide True && _)) = true
  have : (n == 10) = false := by simp; omega
  simp [noCls, this], rfl, rfl, rfl⟩
/-- what no call of the simulation changes -/
def noSim : kK → Bool := fun n => !(n.1 == 6) && (!(n.1 == 10 && (n.2 == 4 || n.2 == 5)) && !(n.1 == 12 && n.2 == 8))
theorem ltP.kp {Γ : hGam} {M M1 : hM} {x : Nat} {S : hS} (h : ltP Γ M x S) {P : kK → Bool} (hk : hKp P M M1) (h0 : P (0, 0) = true) (h1 : P (1, 0) = true) (h2 : P (2, 0) = true) (h3 : P (3, 0) = true) (h4 : P (4, 0) = true) (h5 : P (5, 0) = true) (h12 : P (12, 0) = true ∧ P (12, 10) = true) (h40 : P (12, 40) = true) : ltP Γ M1 x S := by
  obtain ⟨hl9, ol, rk, tr, edh, edo, hb, ob, hk9, hk2, V, V2, g0, pL, pT, pH, pO, nHO, nED, pR, pR2, nHK, hRV⟩ := h
  exact ⟨hl9, ol, rk, tr, edh, edo, hb, ob, hk9, hk2, V, V2, g0, hk _ _ _ pL h5, hk _ _ _ pT h12.1, pH.kp hk h0 h1 h12, pO.kp hk h0 h3 h12, nHO, nED, pR.kp hk h2 h4 h40, pR2.kp hk h2 h4 h40, nHK, hRV⟩
theorem ltP.sim {Γ : hGam} {M M1 : hM} {x : Nat} {S : hS} (h : ltP Γ M x S) (hk : hKp noSim M M1) : ltP Γ M1 x S := h.kp hk rfl rfl rfl rfl rfl rfl ⟨rfl, rfl⟩ rfl
/-- a bundle's ints, in a cell that is there -/
theorem smB.of {Γ : hGam} {M : hM} {bd : Nat → Option Nat} {B : Nat → hB} (h : smB Γ M bd B) {i a : Nat} (hi : i < 40) (e : bd i = some a) : ∃ (j : Nat) (f : Nat → Int32), (B i).1 = some j ∧ M a = some (true, aI Γ 5 f) ∧ smC j (B i) f := h.1 i hi a e
theorem smB.tak {Γ : hGam} {M : hM} {bd : Nat → Option Nat} {B : Nat → hB} (h : smB Γ M bd B) {i : Nat} (hi : i < 40) : (B i).1.isSome = (bd i).isSome := by
  cases e : bd i with
  | none => rw [h.2.1 i hi e]
  | some a =>
    obtain ⟨j, f, b1, -⟩ := h.1 i hi a e
    rw [b1]; rfl
/-- a bundle's ints were changed -/
theorem smB.put {Γ : hGam} {M : hM} {bd : Nat → Option Nat} {B : Nat → hB} (h : smB Γ M bd B) {i a j : Nat} {f : Nat → Int32} {b : hB} (hi : i < 40) (e : bd i = some a) (hb : b.1 = some j) (hc : smC j b f) : smB Γ (hU M a (aI Γ 5 f)) bd (fUp B i b) := by
  refine ⟨fun i2 hi2 a2 e2 => ?_, fun i2 hi2 e2 => ?_, h.2.2⟩
  · by_cases q : i2 = i
    · subst q
      cases e.symm.trans e2
      exact ⟨j, f, by rw [fUp_s]; exact hb, hU_s _ _ _, by rw [fUp_s]; exact hc⟩
    · obtain ⟨j2, f2, b1, b2, b3⟩ := h.1 i2 hi2 a2 e2
      rw [fUp_n q]
      exact ⟨j2, f2, b1, (hU_n (fun z => q (h.2.2 i2 i a hi2 hi (by rw [← z]; exact e2) e))).trans b2, b3⟩
  · by_cases q : i2 = i
    · subst q; rw [e] at e2; cases e2
    · rw [fUp_n q]; exact h.2.1 i2 hi2 e2
/-- a bundle was taken off, or there was none -/
theorem smB.clr {Γ : hGam} {M : hM} {bd : Nat → Option Nat} {B : Nat → hB} (h : smB Γ M bd B) (i : Nat) {b : hB} (hb : b.1 = none) : smB Γ M (fUp bd i none) (fUp B i b) := by
  refine ⟨fun i2 hi2 a2 e2 => ?_, fun i2 hi2 e2 => ?_, fun i2 j2 a h1 h2 e1 e2 => ?_⟩
  · by_cases q : i2 = i
    · subst q; rw [fUp_s] at e2; cases e2
    · rw [fUp_n q] at e2 ⊢; exact h.1 i2 hi2 a2 e2
  · by_cases q : i2 = i
    · subst q; rw [fUp_s]; exact hb
    · rw [fUp_n q] at e2 ⊢; exact h.2.1 i2 hi2 e2
  · by_cases q : i2 = i
    · subst q; rw [fUp_s] at e1; cases e1
    · by_cases q2 : j2 = i
      · subst q2; rw [fUp_s] at e2; cases e2
      · rw [fUp_n q] at e1; rw [fUp_n q2] at e2; exact h.2.2 i2 j2 a h1 h2 e1 e2
/-- a place of a row was changed -/
theorem smL.put {Γ : hGam} {M : hM} {la : Nat} {rx : Nat → Nat} {bd : Nat → Option Nat} (h : smL Γ M la rx bd) {t c : Nat} (ht : t < 5) (hc : c < 8) {rf : Nat → Option Nat} (hr : ∀ h, h < 8 → rf h = bd (t * 8 + h)) (o : Option Nat) : smL Γ (hU M (rx t) (aR Γ 8 (va_up rf c o))) la rx (fUp bd (t * 8 + c) o) := by
  obtain ⟨lf, a1, a2, a3⟩ := h
  have hn : la ≠ rx t := fun q => by
    obtain ⟨-, f, b2, -⟩ := a2 t ht
    rw [← q, a1] at b2
    have e1 := (Prod.mk.inj (Option.some.inj b2)).2
    have e2 := (Prod.mk.inj (Prod.mk.inj (Sum.inl.inj e1)).2).1
    exact absurd e2 (by decide)
  refine ⟨lf, (hU_n hn).trans a1, fun t2 ht2 => ?_, a3⟩
  obtain ⟨b1, f, b2, b3⟩ := a2 t2 ht2
  refine ⟨b1, ?_⟩
  by_cases q : t2 = t
  · subst q
    refine ⟨_, hU_s _ _ _, fun h hh => ?_⟩
    by_cases q2 : h = c
    · subst q2; rw [va_up_self, fUp_s]
    · rw [va_up_ne _ _ q2, fUp_n (by omega)]; exact hr h hh
  · exact ⟨f, (hU_n (fun z => q (a3 t2 t ht2 ht z))).trans b2, fun h hh => by rw [fUp_n (by omega)]; exact b3 h hh⟩
theorem smL.row {Γ : hGam} {M : hM} {la : Nat} {rx : Nat → Nat} {bd : Nat → Option Nat} (h : smL Γ M la rx bd) : ∃ lf : Nat → Option Nat, M la = some (true, aRR Γ 5 lf) ∧ ∀ t, t < 5 → va_rf (lf t) = .ref (rx t) ∧ ∃ rf : Nat → Option Nat, M (rx t) = some (true, aR Γ 8 rf) ∧ ∀ h, h < 8 → rf h = bd (t * 8 + h) := by
  obtain ⟨lf, a1, a2, -⟩ := h
  exact ⟨lf, a1, fun t ht => ⟨by rw [(a2 t ht).1]; rfl, (a2 t ht).2⟩⟩
/-! near: one hook before, one behind -/
def nT (w : Nat) (me v : hB) : Bool := decide (w = 0) || ((decide (w = 1) && decide (bWet me < bWet v)) || (decide (w = 2) && decide (2 < v.2.2.2.2)))
def nIx (i j : Nat) : Option Nat := if j = 0 then (if i % 8 = 0 then none else some (i - 1)) else (if i % 8 = 7 then none else some (i + 1))
def nrQ (w : Nat) (B : Nat → hB) (i j : Nat) : Bool := match nIx i j with
  | none => false
  | some i2 => bTak (B i2) && nT w (B i) (B i2)
def nrS (w : Nat) (B : Nat → hB) (i : Nat) : Nat → Int32 := fun n => hIt (fun j s => s + bI (nrQ w B i j)) 0 n
def oV (c j : Nat) : Int32 := if j = 0 then nI c - 1 else if j = 1 then nI (c + 1) else nI (c + 3)
theorem oV_A : (List.range 8).all (fun c => decide (oV c 0 + 2 = oV c 1) && (decide (oV c 1 + 2 = oV c 2) && (decide (¬ nI c + 1 < oV c 0) && (decide (¬ nI c + 1 < oV c 1) && (decide (nI c + 1 < oV c 2)))))) = true := by decide +kernel
theorem oV_B : (List.range 8).all (fun c => decide ((oV c 0 < 0) = (c = 0)) && (decide (¬ 7 < oV c 0) && (decide (c = 0) || decide (oV c 0 = nI (c - 1)) && (decide (¬ oV c 1 < 0) && (decide ((7 < oV c 1) = (c = 7))))))) = true := by decide +kernel
theorem oV_C : (List.range 8).all (fun c => decide (¬ oV c 1 < 0) && (decide ((7 < oV c 1) = (c = 7)))) = true := by decide +kernel
theorem oV_get {c : Nat} (h : c < 8) : (oV c 0 + 2 = oV c 1) ∧ (oV c 1 + 2 = oV c 2) ∧ (¬ nI c + 1 < oV c 0) ∧ (¬ nI c + 1 < oV c 1) ∧ (nI c + 1 < oV c 2) := by
  have := List.all_eq_true.mp oV_A c (List.mem_range.mpr h)
  simpa only [Bool.and_eq_true, decide_eq_true_eq] using this
theorem oV_s {c j : Nat} (h : c < 8) (hj : j < 2) : oV c j + 2 = oV c (j + 1) := by
  match j, hj with
  | 0, _ => exact (oV_get h).1
  | 1, _ => exact (oV_get h).2.1
theorem oV_end {c j : Nat} (h : c < 8) (hj : j ≤ 2) (q : nI c + 1 < oV c j) : j = 2 := by
  match j, hj with
  | 0, _ => exact absurd q (oV_get h).2.2.1
  | 1, _ => exact absurd q (oV_get h).2.2.2.1
  | 2, _ => rfl
theorem oV_go {c j : Nat} (h : c < 8) (hj : j ≤ 2) (q : ¬ nI c + 1 < oV c j) : j < 2 := by
  match j, hj with
  | 0, _ => decide
  | 1, _ => decide
  | 2, _ => exact absurd (oV_get h).2.2.2.2 q
theorem oV_lo {c j t : Nat} (h : c < 8) (hj : j < 2) (q : oV c j < 0) : nIx (t * 8 + c) j = none := by
  match j, hj with
  | 0, _ =>
    have := List.all_eq_true.mp oV_B c (List.mem_range.mpr h)
    simp only [Bool.and_eq_true, decide_eq_true_eq] at this
    have hc : c = 0 := by rw [← this.1]; exact q
    unfold nIx
    rw [if_pos rfl, if_pos (by omega)]
  | 1, _ =>
    have := List.all_eq_true.mp oV_C c (List.mem_range.mpr h)
    simp only [Bool.and_eq_true, decide_eq_true_eq] at this
    exact absurd q this.1
theorem oV_hi {c j t : Nat} (h : c < 8) (hj : j < 2) (q : 7 < oV c j) : nIx (t * 8 + c) j = none := by
  match j, hj with
  | 0, _ =>
    have := List.all_eq_true.mp oV_B c (List.mem_range.mpr h)
    simp only [Bool.and_eq_true, decide_eq_true_eq] at this
    exact absurd q this.2.1
  | 1, _ =>
    have := List.all_eq_true.mp oV_C c (List.mem_range.mpr h)
    simp only [Bool.and_eq_true, decide_eq_true_eq] at this
    have hc : c = 7 := by rw [← this.2]; exact q
    unfold nIx
    rw [if_neg (by decide), if_pos (by omega)]
theorem oV_in {c j t : Nat} (h : c < 8) (hj : j < 2) (q1 : ¬ oV c j < 0) (q2 : ¬ 7 < oV c j) : ∃ c2, c2 < 8 ∧ oV c j = nI c2 ∧ nIx (t * 8 + c) j = some (t * 8 + c2) := by
  match j, hj with
  | 0, _ =>
    have := List.all_eq_true.mp oV_B c (List.mem_range.mpr h)
    simp only [Bool.and_eq_true, Bool.or_eq_true, decide_eq_true_eq] at this
    have hc : c ≠ 0 := fun e => q1 (by rw [this.1]; exact e)
    refine ⟨c - 1, by omega, (this.2.2.resolve_left hc).1, ?_⟩
    unfold nIx
    rw [if_pos rfl, if_neg (by omega), show t * 8 + c - 1 = t * 8 + (c - 1) by omega]
  | 1, _ =>
    have := List.all_eq_true.mp oV_C c (List.mem_range.mpr h)
    simp only [Bool.and_eq_true, decide_eq_true_eq] at this
    have hc : c ≠ 7 := fun e => q2 (by rw [this.2]; exact e)
    refine ⟨c + 1, by omega, rfl, ?_⟩
    unfold nIx
    rw [if_neg (by decide), if_neg (by omega)]
    rfl
theorem nrS_0 (B : Nat → hB) (i : Nat) : nrS 0 B i 2 = nbrs B i := by
  show (0 : Int32) + bI (nrQ 0 B i 0) + bI (nrQ 0 B i 1) = bI (nbT B i) + bI (naT B i)
  rw [Int32.zero_add]
  unfold nrQ nIx nbT naT nT
  by_cases h0 : i % 8 = 0 <;> by_cases h7 : i % 8 = 7 <;> simp [h0, h7]
theorem nrS_1 (B : Nat → hB) (i : Nat) : nrS 1 B i 2 = wets B i := by
  show (0 : Int32) + bI (nrQ 1 B i 0) + bI (nrQ 1 B i 1) = bI (nbW B i) + bI (naW B i)
  rw [Int32.zero_add]
  unfold nrQ nIx nbW naW nT
  by_cases h0 : i % 8 = 0 <;> by_cases h7 : i % 8 = 7 <;> simp [h0, h7]
theorem lt2_3 (x : Int32) : (2 < x) ↔ (3 ≤ x) := by
  rw [Int32.lt_iff_toInt_lt, Int32.le_iff_toInt_le, show (2 : Int32).toInt = 2 from rfl, show (3 : Int32).toInt = 3 from rfl]
  omega
theorem bI_pos (a b : Bool) : (0 < bI a + bI b) ↔ (a || b) = true := by cases a <;> cases b <;> decide
theorem nrS_2 (B : Nat → hB) (i : Nat) : (0 < nrS 2 B i 2) ↔ nSp B i = true := by
  show (0 < (0 : Int32) + bI (nrQ 2 B i 0) + bI (nrQ 2 B i 1)) ↔ _
  rw [Int32.zero_add, bI_pos]
  unfold nrQ nIx nSp nT
  by_cases h0 : i % 8 = 0 <;> by_cases h7 : i % 8 = 7 <;> simp [h0, h7, lt2_3]
/-! steps of the counts -/
theorem fCnt_y {B : Nat → hB} {i : Nat} (h : (B i).1.isSome = true) (s : Int32) : fCnt B i s = s + 1 := if_pos h
theorem fCnt_n {B : Nat → hB} {i : Nat} (h : (B i).1.isSome = false) (s : Int32) : fCnt B i s = s := if_neg (by rw [h]; decide)
theorem fBad_y {B : Nat → hB} {i : Nat} (h : (B i).1.isSome = true) (h2 : 0 < (B i).2.2.2.2) (s : Int32) : fBad B i s = s + 1 := if_pos (by rw [h, decide_eq_true h2]; rfl)
theorem fBad_0 {B : Nat → hB} {i : Nat} (h2 : ¬ 0 < (B i).2.2.2.2) (s : Int32) : fBad B i s = s := if_neg (by rw [decide_eq_false h2, Bool.and_false]; decide)
theorem fBad_n {B : Nat → hB} {i : Nat} (h : (B i).1.isSome = false) (s : Int32) : fBad B i s = s := if_neg (by rw [h, Bool.false_and]; decide)
theorem fSum_y {B : Nat → hB} {i : Nat} (h : (B i).1.isSome = true) (s : Int32) : fSum B i s = s + bWet (B i) := if_pos h
theorem fSum_n {B : Nat → hB} {i : Nat} (h : (B i).1.isSome = false) (s : Int32) : fSum B i s = s := if_neg (by rw [h]; decide)
theorem cnt_y {B : Nat → hB} {i : Nat} (h : (B i).1.isSome = true) : hIt (fCnt B) 0 (i + 1) = hIt (fCnt B) 0 i + 1 := fCnt_y h _
theorem cnt_n {B : Nat → hB} {i : Nat} (h : (B i).1.isSome = false) : hIt (fCnt B) 0 (i + 1) = hIt (fCnt B) 0 i := fCnt_n h _
theorem bad_y {B : Nat → hB} {i : Nat} (h : (B i).1.isSome = true) (h2 : 0 < (B i).2.2.2.2) : hIt (fBad B) 0 (i + 1) = hIt (fBad B) 0 i + 1 := fBad_y h h2 _
theorem bad_0 {B : Nat → hB} {i : Nat} (h2 : ¬ 0 < (B i).2.2.2.2) : hIt (fBad B) 0 (i + 1) = hIt (fBad B) 0 i := fBad_0 h2 _
theorem bad_n {B : Nat → hB} {i : Nat} (h : (B i).1.isSome = false) : hIt (fBad B) 0 (i + 1) = hIt (fBad B) 0 i := fBad_n h _
theorem sum_y {B : Nat → hB} {i : Nat} (h : (B i).1.isSome = true) : hIt (fSum B) 0 (i + 1) = hIt (fSum B) 0 i + bWet (B i) := fSum_y h _
theorem sum_n {B : Nat → hB} {i : Nat} (h : (B i).1.isSome = false) : hIt (fSum B) 0 (i + 1) = hIt (fSum B) 0 i := fSum_n h _
