/-! ===== steps from picture to picture ===== -/
theorem le_eq9 {a b c : Int32} (h : a = b) (h2 : b ≤ c) : a ≤ c := h ▸ h2
section hPic
variable {Γ : hGam} {M M1 : hM} {x : Nat} {S : hS} {hl ol rk tr edh edo : Nat} {hb ob hk hk2 : Nat → Nat} {V V2 : Nat → hB} {g0 : Nat → Option Nat}
theorem kd_loft (a b c d : Option Nat) (e f : Int32) : kd (oLoft a b c d e f) = (5, 0) := rfl
theorem kdRO (Γ : hGam) (n : Nat) (g : Nat → Option Nat) : kd (aO Γ n g) = (12, n) := rfl
/-- hooks of the rack were changed -/
theorem ltQ.rack (h : ltQ Γ M x S hl ol rk tr edh edo hb ob hk hk2 V V2 g0) {FS FS1 : Nat → Int32 × Bool} {V1 B1 : Nat → hB} (hF : hkF M hk V FS) (hF1 : hkF M1 hk V1 FS1) (ho : hOff M M1 (onHk hk)) (hR : RelV hb V1 B1) : ltQ Γ M1 x (setB S B1) hl ol rk tr edh edo hb ob hk hk2 V1 V2 g0 ∧ hKp noHk M M1 := by
  obtain ⟨pL, pT, pH, pO, nHO, nED, pR, pR2, nHK, hRV⟩ := h
  have hk1 := hKp.hk hF ho
  exact ⟨⟨hk1 _ _ _ pL rfl, hk1 _ _ _ pT rfl, pH.kp hk1 rfl rfl ⟨rfl, rfl⟩, pO.kp hk1 rfl rfl ⟨rfl, rfl⟩, nHO, nED, ⟨pR.1.kp hk1 rfl rfl, FS1, hF1⟩, pR2.oth hF (fun i j hi hj q => nHK j i hj hi q.symm) ho, nHK, hR⟩, hk1⟩
/-- hooks of the trial were changed -/
theorem ltQ.trial (h : ltQ Γ M x S hl ol rk tr edh edo hb ob hk hk2 V V2 g0) {FS2 FS1 : Nat → Int32 × Bool} {V1 : Nat → hB} (hF : hkF M hk2 V2 FS2) (hF1 : hkF M1 hk2 V1 FS1) (ho : hOff M M1 (onHk hk2)) : ltQ Γ M1 x S hl ol rk tr edh edo hb ob hk hk2 V V1 g0 ∧ hKp noHk M M1 := by
  obtain ⟨pL, pT, pH, pO, nHO, nED, pR, pR2, nHK, hRV⟩ := h
  have hk1 := hKp.hk hF ho
  exact ⟨⟨hk1 _ _ _ pL rfl, hk1 _ _ _ pT rfl, pH.kp hk1 rfl rfl ⟨rfl, rfl⟩, pO.kp hk1 rfl rfl ⟨rfl, rfl⟩, nHO, nED, pR.oth hF nHK ho, ⟨pR2.1.kp hk1 rfl rfl, FS1, hF1⟩, nHK, hRV⟩, hk1⟩
/-- a bundle of the rack was changed -/
theorem ltQ.put (h : ltQ Γ M x S hl ol rk tr edh edo hb ob hk hk2 V V2 g0) {FS : Nat → Int32 × Bool} (hF : hkF M hk V FS) {i : Nat} (hi : i < 40) (v b : hB) (h1 : v.1 = b.1.map hb) (h2 : b.1 ≠ none → v.2 = b.2) : hkF (hU M (hk i) (hkC hk i v (FS i))) hk (fUp V i v) FS ∧ ltQ Γ (hU M (hk i) (hkC hk i v (FS i))) x (setB S (fUp (sB S) i b)) hl ol rk tr edh edo hb ob hk hk2 (fUp V i v) V2 g0 ∧ hKp noHk M (hU M (hk i) (hkC hk i v (FS i))) := by
  have hi2 := h.2.2.2.2.2.2.1.1.1
  have hF1 : hkF (hU M (hk i) (hkC hk i v (FS i))) hk (fUp V i v) FS := by
    have := hF.put hi2 hi v (FS i)
    rw [fUp_k] at this
    exact this
  exact ⟨hF1, h.rack hF hF1 (hOff.rf.put ⟨i, hi, rfl⟩) (h.2.2.2.2.2.2.2.2.2.up i h1 h2)⟩
def noLf : kK → Bool := fun n => !(n.1 == 5)
theorem noCls_noLf : ∀ n, noCls n = true → noLf n = true := fun n h => by
  have := noCls_6 h
  simp only [noLf, Bool.not_eq_true', beq_eq_false_iff_ne]
  omega
/-- the loft's own cell was changed -/
theorem ltQ.cell (h : ltQ Γ M x S hl ol rk tr edh edo hb ob hk hk2 V V2 g0) (w d : Int32) : ltQ Γ (hU M x (oLoft (some hl) (some ol) (some rk) (some tr) w d)) x (S.1, S.2.1, S.2.2.1, w, d) hl ol rk tr edh edo hb ob hk hk2 V V2 g0 ∧ hKp noLf M (hU M x (oLoft (some hl) (some ol) (some rk) (some tr) w d)) := by
  obtain ⟨pL, pT, pH, pO, nHO, nED, pR, pR2, nHK, hRV⟩ := h
  have hk1 : hKp noLf M (hU M x (oLoft (some hl) (some ol) (some rk) (some tr) w d)) := hKp.rf.put pL rfl
  exact ⟨⟨hU_s _ _ _, hk1 _ _ _ pT rfl, pH.kp hk1 rfl rfl ⟨rfl, rfl⟩, pO.kp hk1 rfl rfl ⟨rfl, rfl⟩, nHO, nED, pR.kp hk1 rfl rfl rfl, pR2.kp hk1 rfl rfl rfl, nHK, hRV⟩, hk1⟩
theorem hKp.c1 (h : hKp noHk M M1) : hKp noCls M M1 := h.wk noCls_noHk
theorem hKp.c2 (h : hKp noLf M M1) : hKp noCls M M1 := h.wk noCls_noLf
theorem hbO_n {hb : Nat → Nat} {h : Int32} (e : (if (decide (0 ≤ h) && decide (h < nI (sN S))) = true then some (hb (hNo h)) else none) = none) : isH S h = false := by
  cases hc : isH S h with
  | false => rfl
  | true => rw [show (decide (0 ≤ h) && decide (h < nI (sN S))) = true from hc] at e; cases e
theorem hbO_s {hb : Nat → Nat} {h : Int32} {y : Nat} (e : (if (decide (0 ≤ h) && decide (h < nI (sN S))) = true then some (hb (hNo h)) else none) = some y) : isH S h = true ∧ y = hb (hNo h) := by
  cases hc : isH S h with
  | false => rw [show (decide (0 ≤ h) && decide (h < nI (sN S))) = false from hc] at e; cases e
  | true => rw [show (decide (0 ≤ h) && decide (h < nI (sN S))) = true from hc] at e; cases e; exact ⟨rfl, rfl⟩
theorem nTak_nb {i : Nat} {W : Nat → hB} : bI (nTak (bef hk i) (W (i - 1))) + bI (nTak (aft hk i) (W (i + 1))) = nbrs W i := by
  unfold nbrs nbT naT nTak bef aft
  by_cases h0 : i % 8 = 0 <;> by_cases h7 : i % 8 = 7 <;> simp [h0, h7]
theorem nWet_we {i : Nat} {W : Nat → hB} : bI (nWet (bef hk i) (W (i - 1)) (W i)) + bI (nWet (aft hk i) (W (i + 1)) (W i)) = wets W i := by
  rw [nWet_b, nWet_a]; rfl
def invB (hb : Nat → Nat) (y : Nat) : Nat → Nat
  | 0 => 0
  | n + 1 => if hb n = y then n else invB hb y n
theorem invB_at {hb : Nat → Nat} : ∀ {n : Nat}, hbI hb n → ∀ j, j < n → invB hb (hb j) n = j
  | 0, _, j, hj => absurd hj (Nat.not_lt_zero _)
  | n + 1, hI, j, hj => by
    unfold invB
    by_cases e : hb n = hb j
    · rw [if_pos e]; exact hI n j (Nat.lt_succ_self n) hj e
    · rw [if_neg e]
      exact invB_at (fun a b ha hb2 q => hI a b (by omega) (by omega) q) j (by rcases Nat.lt_or_ge j n with q | q; exact q; exact absurd (by rw [show n = j by omega]) e)
theorem hbF.of (h : ltQ Γ M x S hl ol rk tr edh edo hb ob hk hk2 V V2 g0) (hI : sInv S) {W : Nat → hB} (hW : ∀ i, i < 40 → (W i).1 = (V i).1) : hbF M W (fun y => sE S (invB hb y (sN S))) (fun y => sL S (invB hb y (sN S))) := fun i hi y hy => by
  obtain ⟨pL, pT, pH, pO, nHO, nED, pR, pR2, nHK, hRV⟩ := h
  rw [hW i hi, (hRV i hi).1] at hy
  cases hb1 : (sB S i).1 with
  | none => rw [hb1] at hy; cases hy
  | some j =>
    rw [hb1] at hy
    cases hy
    have hj := (hI.2.2.1 i hi j hb1).1
    refine ⟨true, nI j, ?_⟩
    simp only [invB_at pH.2.2 j hj]; exact pH.2.1 j hj
theorem ltQ.days (h : ltQ Γ M x S hl ol rk tr edh edo hb ob hk hk2 V V2 g0) (hI : sInv S) {W B : Nat → hB} (hR : RelV hb W B) (hB : ∀ i, i < 40 → ∀ j, (B i).1 = some j → j < sN S) (win dmp : Int32) (t : Nat) : RelV hb (vDays (fun y => sE S (invB hb y (sN S))) (fun y => sL S (invB hb y (sN S))) win dmp W t) (vDays (sE S) (sL S) win dmp B t) :=
  RelV.days hR hB (fun j hj => by rw [invB_at h.2.2.1.2.2 j hj]; exact ⟨rfl, rfl⟩) win dmp t
theorem sInv.lt {S : hS} (h : sInv S) : ∀ i, i < 40 → ∀ j, (sB S i).1 = some j → j < sN S := fun i hi j hj => (h.2.2.1 i hi j hj).1
theorem isHk_nI {p q : Int32} (h : isHk p q = true) : ∃ a b : Nat, a ≤ 4 ∧ b ≤ 7 ∧ p = nI a ∧ q = nI b ∧ ixOf p q = a * 8 + b := by
  unfold isHk at h
  simp only [Bool.and_eq_true] at h
  obtain ⟨a, ha, rfl⟩ := h_rng h.1 rfl (N := 4) rfl
  obtain ⟨b, hb, rfl⟩ := h_rng h.2 rfl (N := 7) rfl
  exact ⟨a, b, ha, hb, rfl, rfl, ixOf_nI ha hb⟩
theorem inR_nI {p lo hi : Int32} {N : Nat} (h : inR lo hi p = true) (hl : (0 : Int32) ≤ lo) (hc : hi.toInt = N) : ∃ j : Nat, j ≤ N ∧ p = nI j := by
  unfold inR at h
  simp only [Bool.and_eq_true, decide_eq_true_eq] at h
  exact nI_of2 hc (Int32.not_lt.mpr (Int32.le_trans hl h.1)) h.2
theorem RelV.tele (h : RelV hb V (sB S)) {i : Nat} (hi : i < 40) (w : Int32) : bTel (hnO (sB S i).1) (V i) (bI (nTak (bef hk i) (V (i - 1))) + bI (nTak (aft hk i) (V (i + 1)))) (bI (nWet (bef hk i) (V (i - 1)) (V i)) + bI (nWet (aft hk i) (V (i + 1)) (V i))) w = tellI (sB S) i w := by
  rw [nTak_nb, nWet_we]
  unfold tellI bTel
  rw [h.tak hi, h.nbre hi]
  cases ht : (sB S i).1.isSome with
  | false => simp
  | true =>
    rw [h.val hi ht, h.wt hi ht]
    have : wets V i = wets (sB S) i := by unfold wets; rw [h.nbWe hi ht, h.naWe hi ht]
    rw [this]
theorem ltQ.num (h : ltQ Γ M x S hl ol rk tr edh edo hb ob hk hk2 V V2 g0) (hI : sInv S) {i : Nat} (hi : i < 40) : ∀ y, (V i).1 = some y → ∃ (w3 : Bool) (e lm : Int32), M y = some (w3, oHerb (hnO (sB S i).1) e lm) := fun y hy => by
  obtain ⟨pL, pT, pH, pO, nHO, nED, pR, pR2, nHK, hRV⟩ := h
  rw [(hRV i hi).1] at hy
  cases hb1 : (sB S i).1 with
  | none => rw [hb1] at hy; cases hy
  | some j =>
    rw [hb1] at hy
    cases hy
    exact ⟨true, _, _, pH.2.1 j (hI.2.2.1 i hi j hb1).1⟩
theorem inR_no4 {w : Int32} (h0 : ¬ w = 0) (h1 : ¬ w = 1) (h2 : ¬ w = 2) (h3 : ¬ w = 3) (h4 : ¬ w = 4) : inR 0 4 w = false := by
  cases hc : inR 0 4 w with
  | false => rfl
  | true =>
    obtain ⟨j, hj, rfl⟩ := inR_nI hc (by decide) (N := 4) rfl
    match j, hj with
    | 0, _ => exact absurd rfl h0
    | 1, _ => exact absurd rfl h1
    | 2, _ => exact absurd rfl h2
    | 3, _ => exact absurd rfl h3
    | 4, _ => exact absurd rfl h4
    | n + 5, h => omega
theorem inR_no8 {w : Int32} (h0 : ¬ w = 0) (h1 : ¬ w = 1) (h2 : ¬ w = 2) (h3 : ¬ w = 3) (h4 : ¬ w = 4) (h5 : ¬ w = 5) (h6 : ¬ w = 6) (h7 : ¬ w = 7) (h8 : ¬ w = 8) : inR 0 8 w = false := by
  cases hc : inR 0 8 w with
  | false => rfl
  | true =>
    obtain ⟨j, hj, rfl⟩ := inR_nI hc (by decide) (N := 8) rfl
    match j, hj with
    | 0, _ => exact absurd rfl h0
    | 1, _ => exact absurd rfl h1
    | 2, _ => exact absurd rfl h2
    | 3, _ => exact absurd rfl h3
    | 4, _ => exact absurd rfl h4
    | 5, _ => exact absurd rfl h5
    | 6, _ => exact absurd rfl h6
    | 7, _ => exact absurd rfl h7
    | 8, _ => exact absurd rfl h8
    | n + 9, h => omega
theorem abI_0 {j : Nat} : abI S j 0 = sE S j := rfl
theorem abI_1 {j : Nat} : abI S j 1 = sL S j := by simp [abI]
theorem abI_2 {j : Nat} : abI S j 2 = hIt (fCntO (sB S) (some j)) 0 40 := by simp [abI]
theorem abI_3 {j : Nat} : abI S j 3 = hIt (fBadO (sB S) (some j)) 0 40 := by simp [abI]
theorem abI_4 {j : Nat} : abI S j 4 = hIt (fLst (sB S) (some j)) (-1) 40 := by simp [abI]
theorem asI_0 {j : Nat} : asI S j 0 = nI (sW S j) := rfl
theorem asI_1 {j : Nat} : asI S j 1 = sM S j := by simp [asI]
theorem asI_2 {j : Nat} : asI S j 2 = sD S j := by simp [asI]
theorem asI_3 {j : Nat} : asI S j 3 = sG S j := by simp [asI]
theorem asI_4 {j : Nat} : asI S j 4 = hIt (fFit (sB S) (some (sW S j)) (sD S j)) 0 40 := by simp [asI]
theorem cnI_0 : cnI S 0 = sDay S := rfl
theorem cnI_1 : cnI S 1 = nI (sN S) := by simp [cnI]
theorem cnI_2 : cnI S 2 = hIt (fCnt (sB S)) 0 40 := by simp [cnI]
theorem cnI_3 : cnI S 3 = hIt (fBad (sB S)) 0 40 := by simp [cnI]
theorem cnI_4 : cnI S 4 = nI (sO S) := by simp [cnI]
theorem cnI_5 : cnI S 5 = hIt (fun i s => if sG S i < sM S i then s else s + 1) 0 (sO S) := by simp [cnI]
theorem cnI_6 : cnI S 6 = hIt (fun i s => s + sG S i) 0 (sO S) := by simp [cnI]
theorem cnI_7 : cnI S 7 = sWin S := by simp [cnI]
theorem cnI_8 : cnI S 8 = hIt (fSum (sB S)) 0 40 := by simp [cnI]
theorem hbF.of2 (h : ltQ Γ M x S hl ol rk tr edh edo hb ob hk hk2 V V2 g0) {W B : Nat → hB} (hR : RelV hb W B) (hB : ∀ i, i < 40 → ∀ j, (B i).1 = some j → j < sN S) : hbF M W (fun y => sE S (invB hb y (sN S))) (fun y => sL S (invB hb y (sN S))) := fun i hi y hy => by
  obtain ⟨pL, pT, pH, pO, nHO, nED, pR, pR2, nHK, hRV⟩ := h
  rw [(hR i hi).1] at hy
  cases hb1 : (B i).1 with
  | none => rw [hb1] at hy; cases hy
  | some j =>
    rw [hb1] at hy
    cases hy
    have hj := hB i hi j hb1
    refine ⟨true, nI j, ?_⟩
    simp only [invB_at pH.2.2 j hj]; exact pH.2.1 j hj
theorem fndU_t {P : Nat → Bool} {n j : Nat} (h : P j = true) : fndU P (n + 1) j = nI j := if_pos h
theorem fndU_f {P : Nat → Bool} {n j : Nat} (h : P j = false) : fndU P (n + 1) j = fndU P n (j + 1) := if_neg (by rw [h]; decide)
theorem sInv.day {S : hS} (h : sInv S) (win dmp : Int32) (t : Nat) : ∀ i, i < 40 → ∀ j, (vDays (sE S) (sL S) win dmp (sB S) t i).1 = some j → j < sN S := fun i hi j hj => h.lt i hi j (by rw [← vDays_1 (sE S) (sL S) win dmp (sB S) i t]; exact hj)
theorem vTurn_1 (s : Nat) (B : Nat → hB) (i : Nat) : (vTurn s B i).1 = (B i).1 := by
  unfold vTurn
  split
  · rfl
  · rfl
theorem sInv.tu {S : hS} (h : sInv S) (s : Nat) : ∀ i, i < 40 → ∀ j, (vTurn s (sB S) i).1 = some j → j < sN S := fun i hi j hj => h.lt i hi j (by rw [← vTurn_1 s (sB S) i]; exact hj)
theorem adR_s {f0 : Int32} {f : Nat → Int32} {n : Nat} : adR f0 f (n + 1) = if f n < (adR f0 f n).2 then (nI n, f n) else adR f0 f n := rfl
end hPic
