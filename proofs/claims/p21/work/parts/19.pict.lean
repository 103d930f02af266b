/-! ===== what a cell is by kind; what a call keeps ===== -/
abbrev kK : Type := Nat × Nat
/-- a cell's kind: its class's number; of an array what it holds and its length -/
def kd (e : va_E) : kK := match e with
  | .inr o => (o.1, 0)
  | .inl (_, N, .inl _) => (10, N)
  | .inl (_, N, .inr (.inl _)) => (11, N)
  | .inl (_, N, .inr (.inr _)) => (12, N)
def hKp (P : kK → Bool) (M M1 : hM) : Prop := ∀ (a : Nat) (w : Bool) (e : va_E), M a = some (w, e) → P (kd e) = true → M1 a = some (w, e)
theorem hKp.rf {P : kK → Bool} {M : hM} : hKp P M M := fun _ _ _ h _ => h
theorem hKp.tr {P : kK → Bool} {M M1 M2 : hM} (h : hKp P M M1) (h2 : hKp P M1 M2) : hKp P M M2 := fun a w e ha hp => h2 a w e (h a w e ha hp) hp
theorem hKp.put {P : kK → Bool} {M M1 : hM} (h : hKp P M M1) {a : Nat} {w0 : Bool} {e0 e : va_E} (ha : M1 a = some (w0, e0)) (hp : P (kd e0) = false) : hKp P M (hU M1 a e) := fun b w e' hb hp' => by
  have h1 := h b w e' hb hp'
  by_cases hba : b = a
  · subst hba
    rw [ha] at h1
    obtain ⟨-, rfl⟩ := Prod.mk.inj (Option.some.inj h1)
    rw [hp] at hp'
    cases hp'
  · rw [hU_n hba]; exact h1
theorem hKp.new {P : kK → Bool} {M M1 : hM} (h : hKp P M M1) {a : Nat} {e : va_E} (ha : M1 a = none) : hKp P M (hU M1 a e) := fun b w e' hb hp' => by
  have h1 := h b w e' hb hp'
  by_cases hba : b = a
  · subst hba; rw [ha] at h1; cases h1
  · rw [hU_n hba]; exact h1
theorem hKp.wk {P P' : kK → Bool} {M M1 : hM} (h : hKp P M M1) (hpp : ∀ n, P' n = true → P n = true) : hKp P' M M1 := fun a w e ha hp => h a w e ha (hpp _ hp)
def noHk : kK → Bool := fun n => !(n.1 == 2)
/-- what no call of the class changes: no array of references of 10 places is kept, the lists have such -/
def noCls : kK → Bool := fun n => decide (6 ≤ n.1) && !(n.1 == 12 && n.2 == 10)
theorem noCls_6 {n : kK} (h : noCls n = true) : 6 ≤ n.1 := by
  simp only [noCls, Bool.and_eq_true, decide_eq_true_eq] at h
  exact h.1
theorem noCls_12 {n : kK} (h : noCls n = true) : ¬ (n.1 = 12 ∧ n.2 = 10) := fun q => by
  unfold noCls at h
  rw [q.1, q.2] at h
  exact absurd h (by decide)
theorem noCls_noHk : ∀ n, noCls n = true → noHk n = true := fun n h => by
  have := noCls_6 h
  simp only [noHk, Bool.not_eq_true', beq_eq_false_iff_ne]
  omega
theorem hKp.hk {M M1 : hM} {hk : Nat → Nat} {V : Nat → hB} {FS : Nat → Int32 × Bool} (hF : hkF M hk V FS) (ho : hOff M M1 (onHk hk)) : hKp noHk M M1 := fun a w e ha hp => by
  refine (ho a (hF.notOn ha (fun fs q => ?_))).trans ha
  rw [q] at hp
  cases hp
/-! ===== the loft's picture ===== -/
def pHd (Γ : hGam) (M : hM) (hl edh n : Nat) (hb : Nat → Nat) (eH lH : Nat → Int32) : Prop := lsP Γ M hl edh n hb ∧ (∀ i, i < n → M (hb i) = some (true, oHerb (nI i) (eH i) (lH i))) ∧ hbI hb n
def pOd (Γ : hGam) (M : hM) (ol edo n : Nat) (ob hb : Nat → Nat) (W : Nat → Nat) (Mn Dr G : Nat → Int32) : Prop := lsP Γ M ol edo n ob ∧ (∀ i, i < n → M (ob i) = some (true, oOrder (some (hb (W i))) (Mn i) (Dr i) (G i))) ∧ hbI ob n
def pRk (Γ : hGam) (M : hM) (r : Nat) (hk : Nat → Nat) (V : Nat → hB) : Prop := rkS Γ M r hk ∧ ∃ FS, hkF M hk V FS
theorem lsP.kp {Γ : hGam} {M M1 : hM} {a ed n : Nat} {e : Nat → Nat} (h : lsP Γ M a ed n e) {P : kK → Bool} (hk : hKp P M M1) (h0 : P (0, 0) = true) (h12 : P (12, 0) = true ∧ P (12, 10) = true) : lsP Γ M1 a ed n e := by
  obtain ⟨mod, w, cap, g, a1, a2, a3, a4, a5⟩ := h
  refine ⟨mod, w, cap, g, hk _ _ _ a1 h0, hk _ _ _ a2 ?_, a3, a4, a5⟩
  rcases a5 with ⟨-, q, -⟩ | ⟨-, q⟩
  · rw [q]; exact h12.1
  · rw [q]; exact h12.2
theorem pHd.kp {Γ : hGam} {M M1 : hM} {hl edh n : Nat} {hb : Nat → Nat} {eH lH : Nat → Int32} (h : pHd Γ M hl edh n hb eH lH) {P : kK → Bool} (hk : hKp P M M1) (h0 : P (0, 0) = true) (h1 : P (1, 0) = true) (h12 : P (12, 0) = true ∧ P (12, 10) = true) : pHd Γ M1 hl edh n hb eH lH :=
  ⟨h.1.kp hk h0 h12, fun i hi => hk _ _ _ (h.2.1 i hi) h1, h.2.2⟩
theorem pOd.kp {Γ : hGam} {M M1 : hM} {ol edo n : Nat} {ob hb : Nat → Nat} {W : Nat → Nat} {Mn Dr G : Nat → Int32} (h : pOd Γ M ol edo n ob hb W Mn Dr G) {P : kK → Bool} (hk : hKp P M M1) (h0 : P (0, 0) = true) (h3 : P (3, 0) = true) (h12 : P (12, 0) = true ∧ P (12, 10) = true) : pOd Γ M1 ol edo n ob hb W Mn Dr G :=
  ⟨h.1.kp hk h0 h12, fun i hi => hk _ _ _ (h.2.1 i hi) h3, h.2.2⟩
theorem rkS.kp {Γ : hGam} {M M1 : hM} {r : Nat} {hk : Nat → Nat} (h : rkS Γ M r hk) {P : kK → Bool} (hkp : hKp P M M1) (h4 : P (4, 0) = true) (h12 : P (12, 40) = true) : rkS Γ M1 r hk := by
  obtain ⟨hi, arr, f, h1, h2, h3⟩ := h
  exact ⟨hi, arr, f, hkp _ _ _ h1 h4, hkp _ _ _ h2 h12, h3⟩
theorem pRk.kp {Γ : hGam} {M M1 : hM} {r : Nat} {hk : Nat → Nat} {V : Nat → hB} (h : pRk Γ M r hk V) {P : kK → Bool} (hkp : hKp P M M1) (h2 : P (2, 0) = true) (h4 : P (4, 0) = true) (h12 : P (12, 40) = true) : pRk Γ M1 r hk V := by
  obtain ⟨h1, FS, hF⟩ := h
  exact ⟨h1.kp hkp h4 h12, FS, fun i hi => hkp _ _ _ (hF i hi) h2⟩
/-- another rack's hooks were changed -/
theorem pRk.oth {Γ : hGam} {M M1 : hM} {r : Nat} {hk hk2 : Nat → Nat} {V V2 : Nat → hB} {FS2 : Nat → Int32 × Bool} (h : pRk Γ M r hk V) (hF2 : hkF M hk2 V2 FS2) (hd : ∀ i j, i < 40 → j < 40 → hk i ≠ hk2 j) (ho : hOff M M1 (onHk hk2)) : pRk Γ M1 r hk V := by
  obtain ⟨h1, FS, hF⟩ := h
  exact ⟨h1.offHk hF2 ho, FS, hF.off ho (fun i hi q => by obtain ⟨j, hj, e⟩ := q; exact hd i j hi hj e)⟩
def ltQ (Γ : hGam) (M : hM) (x : Nat) (S : hS) (hl ol rk tr edh edo : Nat) (hb ob hk hk2 : Nat → Nat) (V V2 : Nat → hB) (g0 : Nat → Option Nat) : Prop :=
    M x = some (true, oLoft (some hl) (some ol) (some rk) (some tr) (sWin S) (sDay S)) ∧ M Γ.2.2.1 = some (false, aO Γ 0 g0) ∧
    pHd Γ M hl edh (sN S) hb (sE S) (sL S) ∧ pOd Γ M ol edo (sO S) ob hb (sW S) (sM S) (sD S) (sG S) ∧ hl ≠ ol ∧ (edh = edo → edh = Γ.2.2.1) ∧
    pRk Γ M rk hk V ∧ pRk Γ M tr hk2 V2 ∧ (∀ i j, i < 40 → j < 40 → hk i ≠ hk2 j) ∧ RelV hb V (sB S)
def ltP (Γ : hGam) (M : hM) (x : Nat) (S : hS) : Prop :=
  ∃ (hl ol rk tr edh edo : Nat) (hb ob hk hk2 : Nat → Nat) (V V2 : Nat → hB) (g0 : Nat → Option Nat), ltQ Γ M x S hl ol rk tr edh edo hb ob hk hk2 V V2 g0
theorem ltQ.P {Γ : hGam} {M : hM} {x : Nat} {S : hS} {hl ol rk tr edh edo : Nat} {hb ob hk hk2 : Nat → Nat} {V V2 : Nat → hB} {g0 : Nat → Option Nat} (h : ltQ Γ M x S hl ol rk tr edh edo hb ob hk hk2 V V2 g0) : ltP Γ M x S := ⟨hl, ol, rk, tr, edh, edo, hb, ob, hk, hk2, V, V2, g0, h⟩
theorem nI_isH {S : hS} {j : Nat} (hn : sN S ≤ 6) (hj : j < 2 ^ 31) : isH S (nI j) = decide (j < sN S) := by
  unfold isH
  have h1 : (0 : Int32) ≤ nI j := nI_pos' hj
  have h2 := nI_ltI (a := j) (b := sN S) hj (by omega)
  by_cases h : j < sN S
  · simp [h1, h2.mpr h, h]
  · have h3 : ¬ nI j < nI (sN S) := fun q => h (h2.mp q)
    simp [h1, h3, h]
theorem isH_ex {S : hS} {h : Int32} (hh : isH S h = true) : hNo h < sN S ∧ h = nI (hNo h) := by
  unfold isH at hh
  simp only [Bool.and_eq_true, decide_eq_true_eq] at hh
  obtain ⟨j, hj, rfl⟩ := nI_of (Int32.not_lt.mpr hh.1)
  have e : hNo (nI j) = j := nI_clamp hj
  rw [e]
  refine ⟨?_, rfl⟩
  rcases Nat.lt_or_ge j (sN S) with q | q
  · exact q
  · exact absurd (nI_le q hj) (Int32.not_le.mpr hh.2)
theorem isHk_lt {p q : Int32} (h : isHk p q = true) : ixOf p q < 40 := by
  unfold isHk at h
  simp only [Bool.and_eq_true] at h
  exact ixOf_lt h.1 h.2
theorem hkAtO_t {hk : Nat → Nat} {p q : Int32} (h : isHk p q = true) : hkAtO hk p q = some (hk (ixOf p q)) := if_pos h
theorem hkAtO_f {hk : Nat → Nat} {p q : Int32} (h : isHk p q = false) : hkAtO hk p q = none := by
  unfold hkAtO
  exact if_neg (fun q => by rw [show (inStr _ && inHok _) = false from h] at q; cases q)
theorem hkAtO_n {hk : Nat → Nat} {p q : Int32} (h : hkAtO hk p q = none) : isHk p q = false := by
  cases hc : isHk p q with
  | false => rfl
  | true => rw [hkAtO_t hc] at h; cases h
theorem hkAtO_s {hk : Nat → Nat} {p q : Int32} {y : Nat} (h : hkAtO hk p q = some y) : isHk p q = true ∧ y = hk (ixOf p q) := by
  cases hc : isHk p q with
  | false => rw [hkAtO_f hc] at h; cases h
  | true => rw [hkAtO_t hc] at h; cases h; exact ⟨rfl, rfl⟩
abbrev eIAE : String := "java/lang/IllegalArgumentException"
abbrev eISE : String := "java/lang/IllegalStateException"
abbrev eIOB : String := "java/lang/IndexOutOfBoundsException"
