theorem h_rng {p lo hi : Int32} {N : Nat} (h : (decide (lo ≤ p) && decide (p ≤ hi)) = true) (hl : lo = 0) (hc : hi.toInt = N) : ∃ j : Nat, j ≤ N ∧ p = nI j := by
  subst hl
  simp only [Bool.and_eq_true, decide_eq_true_eq] at h
  exact nI_of2 hc (Int32.not_lt.mpr h.1) h.2
def inStr (p : Int32) : Bool := decide (0 ≤ p) && decide (p ≤ 4)
def inHok (p : Int32) : Bool := decide (0 ≤ p) && decide (p ≤ 7)
def ixOf (p q : Int32) : Nat := p.toNatClampNeg * 8 + q.toNatClampNeg
/-- the hook there, if there is one -/
def hkAtO (hk : Nat → Nat) (p q : Int32) : Option Nat := if (inStr p && inHok q) = true then some (hk (ixOf p q)) else none
theorem ixOf_nI {a b : Nat} (ha : a ≤ 4) (hb : b ≤ 7) : ixOf (nI a) (nI b) = a * 8 + b := by
  unfold ixOf
  rw [nI_clamp (by omega), nI_clamp (by omega)]
theorem ixOf_lt {p q : Int32} (hp : inStr p = true) (hq : inHok q = true) : ixOf p q < 40 := by
  obtain ⟨a, ha, rfl⟩ := h_rng hp rfl (N := 4) rfl
  obtain ⟨b, hb, rfl⟩ := h_rng hq rfl (N := 7) rfl
  rw [ixOf_nI ha hb]
  omega
theorem ix_eq {a b : Nat} : nI a * 8 + nI b = nI (a * 8 + b) := by
  rw [show (8 : Int32) = nI 8 from rfl, pk_mul, nI_add]
def bSwp (v : hB) : hB := (v.1, v.2.2.1, v.2.1, v.2.2.2)
def vTurn (s : Nat) (V : Nat → hB) : Nat → hB := fun i => if i / 8 = s ∧ (V i).1.isSome = true then bSwp (V i) else V i
def fTurn (s : Nat) (V : Nat → hB) : Nat → Int32 → Int32 := fun i c => if i / 8 = s ∧ (V i).1.isSome = true then c + 1 else c
/-- up to j the new, from there the old -/
def vMix {α : Type} (j : Nat) (a b : Nat → α) : Nat → α := fun i => if i < j then a i else b i
theorem vMix_0 {α : Type} (a b : Nat → α) : vMix 0 a b = b := by funext i; simp [vMix]
theorem vMix_at {α : Type} {j : Nat} {a b : Nat → α} : vMix j a b j = b j := by simp [vMix]
theorem vMix_s {α : Type} {j : Nat} {a b : Nat → α} : fUp (vMix j a b) j (a j) = vMix (j + 1) a b := by
  funext i
  by_cases h : i = j
  · subst h; simp [fUp, vMix]
  · by_cases h2 : i < j
    · simp [fUp, vMix, h, h2, Nat.lt_succ_of_lt h2]
    · have h3 : ¬ i < j + 1 := by omega
      simp [fUp, vMix, h, h2, h3]
theorem hkF.mixN {M : hM} {hk : Nat → Nat} {V : Nat → hB} {W : Nat → hB} {FS : Nat → Int32 × Bool} (h : hkF M hk (vMix 40 W V) FS) : hkF M hk W FS := h.congr (fun i hi => by simp [vMix, hi]) (fun _ _ => rfl)
theorem hkF.mixF {M : hM} {hk : Nat → Nat} {V : Nat → hB} {FS FT : Nat → Int32 × Bool} (h : hkF M hk V (vMix 40 FT FS)) : hkF M hk V FT := h.congr (fun _ _ => rfl) (fun i hi => by simp [vMix, hi])
theorem vMix_k {α : Type} {j : Nat} {a b : Nat → α} (h : a j = b j) : vMix (j + 1) a b = vMix j a b := by
  funext i
  by_cases hi : i = j
  · subst hi; simp [vMix, h]
  · by_cases h2 : i < j
    · simp [vMix, h2, Nat.lt_succ_of_lt h2]
    · have h3 : ¬ i < j + 1 := by omega
      simp [vMix, h2, h3]
theorem fUp_k {α : Type} {f : Nat → α} {j : Nat} : fUp f j (f j) = f := by
  funext i
  by_cases hi : i = j
  · subst hi; simp [fUp]
  · simp [fUp, hi]
theorem hkF.step {M : hM} {hk : Nat → Nat} {a b : Nat → hB} {FS : Nat → Int32 × Bool} {j : Nat} (h : hkF M hk (vMix j a b) FS) (hi : hkI hk) (hj : j < 40) : hkF (hU M (hk j) (hkC hk j (a j) (FS j))) hk (vMix (j + 1) a b) FS := by
  have := h.put hi hj (a j) (FS j)
  rw [vMix_s, fUp_k] at this
  exact this
theorem hkF.stepF {M : hM} {hk : Nat → Nat} {V : Nat → hB} {a b : Nat → Int32 × Bool} {j : Nat} (h : hkF M hk V (vMix j a b)) (hi : hkI hk) (hj : j < 40) : hkF (hU M (hk j) (hkC hk j (V j) (a j))) hk V (vMix (j + 1) a b) := by
  have := h.put hi hj (V j) (a j)
  rw [vMix_s, fUp_k] at this
  exact this
/-! a day, at the hook i -/
def nbW (V : Nat → hB) (i : Nat) : Bool := decide (i % 8 ≠ 0) && (bTak (V (i - 1)) && decide (bWet (V i) < bWet (V (i - 1))))
def naW (V : Nat → hB) (i : Nat) : Bool := decide (i % 8 ≠ 7) && (bTak (V (i + 1)) && decide (bWet (V i) < bWet (V (i + 1))))
def nSp (V : Nat → hB) (i : Nat) : Bool := (decide (i % 8 ≠ 0) && (bTak (V (i - 1)) && decide (3 ≤ (V (i - 1)).2.2.2.2))) || (decide (i % 8 ≠ 7) && (bTak (V (i + 1)) && decide (3 ≤ (V (i + 1)).2.2.2.2)))
theorem nWet_b {hk : Nat → Nat} {V : Nat → hB} {i : Nat} : nWet (bef hk i) (V (i - 1)) (V i) = nbW V i := by
  unfold nWet nbW bef
  by_cases h : i % 8 = 0 <;> simp [h]
theorem nWet_a {hk : Nat → Nat} {V : Nat → hB} {i : Nat} : nWet (aft hk i) (V (i + 1)) (V i) = naW V i := by
  unfold nWet naW aft
  by_cases h : i % 8 = 7 <;> simp [h]
theorem nSpr_i {hk : Nat → Nat} {V : Nat → hB} {i : Nat} : (nSpr (bef hk i) (V (i - 1)) || nSpr (aft hk i) (V (i + 1))) = nSp V i := by
  unfold nSpr nSp bef aft
  by_cases h : i % 8 = 0 <;> by_cases h2 : i % 8 = 7 <;> simp [h, h2]
def dFrc (ea : Int32) (win dmp : Int32) (V : Nat → hB) (i : Nat) : Int32 := bFrc ea (nI (i / 8)) win dmp (nbW V i) (naW V i)
def dBun (ea lm : Int32) (win dmp : Int32) (V : Nat → hB) (i : Nat) : hB :=
  let v := V i
  let fo := dFrc ea win dmp V i
  let wd := dWd lm (dFr v.2.1 fo) (dBk v.2.2.1 fo) v.2.2.2.1
  (v.1, dFr v.2.1 fo, dBk v.2.2.1 fo, wd, dM2 (dM1 wd v.2.2.2.2) (nSp V i))
/-- a day over all hooks; eA, lA: ease and limit by the herb -/
def vDay (eA lA : Nat → Int32) (win dmp : Int32) (V : Nat → hB) : Nat → hB := fun i => match (V i).1 with
  | none => V i
  | some y => dBun (eA y) (lA y) win dmp V i
def vFS (eA : Nat → Int32) (win dmp : Int32) (V : Nat → hB) (FS : Nat → Int32 × Bool) : Nat → Int32 × Bool := fun i => match (V i).1 with
  | none => FS i
  | some y => (dFrc (eA y) win dmp V i, nSp V i)
def vDays (eA lA : Nat → Int32) (win dmp : Int32) (V : Nat → hB) (n : Nat) : Nat → hB := hIt (fun _ W => vDay eA lA win dmp W) V n
theorem vDay_1 (eA lA : Nat → Int32) (win dmp : Int32) (V : Nat → hB) (i : Nat) : (vDay eA lA win dmp V i).1 = (V i).1 := by
  unfold vDay
  cases h : (V i).1 with
  | none => exact h
  | some y => exact h
theorem vDays_1 (eA lA : Nat → Int32) (win dmp : Int32) (V : Nat → hB) (i : Nat) : ∀ n, (vDays eA lA win dmp V n i).1 = (V i).1
  | 0 => rfl
  | n + 1 => (vDay_1 eA lA win dmp _ i).trans (vDays_1 eA lA win dmp V i n)
/-- the herbs of the bundles, by their addresses -/
def hbF (M : hM) (V : Nat → hB) (eA lA : Nat → Int32) : Prop := ∀ i, i < 40 → ∀ y, (V i).1 = some y → ∃ (w : Bool) (hn : Int32), M y = some (w, oHerb hn (eA y) (lA y))
theorem hbF.off {M M1 : hM} {hk : Nat → Nat} {V W : Nat → hB} {FS : Nat → Int32 × Bool} {eA lA : Nat → Int32} (h : hbF M W eA lA) (hF : hkF M hk V FS) (ho : hOff M M1 (onHk hk)) : hbF M1 W eA lA := fun i hi y hy => by
  obtain ⟨w, hn, e⟩ := h i hi y hy
  exact ⟨w, hn, (ho _ (hF.notOn e (fun fs q => by cases q))).trans e⟩
theorem begin_eq {hk : Nat → Nat} {V : Nat → hB} {FS : Nat → Int32 × Bool} {eA : Nat → Int32} {win dmp ea : Int32} {j : Nat} (he : ∀ y, (V j).1 = some y → ea = eA y) :
    oHook (nI (j / 8)) (bef hk j) (aft hk j) (V j).1 (V j).2.1 (V j).2.2.1 (V j).2.2.2.1 (V j).2.2.2.2 (if (V j).1.isSome then bFrc ea (nI (j / 8)) win dmp (nWet (bef hk j) (V (j - 1)) ((V j).1, (V j).2.1, (V j).2.2.1, (V j).2.2.2.1, (V j).2.2.2.2)) (nWet (aft hk j) (V (j + 1)) ((V j).1, (V j).2.1, (V j).2.2.1, (V j).2.2.2.1, (V j).2.2.2.2)) else (FS j).1) (if (V j).1.isSome then bI (nSpr (bef hk j) (V (j - 1)) || nSpr (aft hk j) (V (j + 1))) else bI (FS j).2)
    = hkC hk j (V j) (vFS eA win dmp V FS j) := by
  have e1 : nWet (bef hk j) (V (j - 1)) ((V j).1, (V j).2.1, (V j).2.2.1, (V j).2.2.2.1, (V j).2.2.2.2) = nbW V j := nWet_b
  have e2 : nWet (aft hk j) (V (j + 1)) ((V j).1, (V j).2.1, (V j).2.2.1, (V j).2.2.2.1, (V j).2.2.2.2) = naW V j := nWet_a
  rw [e1, e2, nSpr_i]
  unfold vFS
  cases hv : (V j).1 with
  | none => simp [hkC, hv]
  | some y => rw [he y hv]; simp [hkC, hv, dFrc]
theorem end_eq {hk : Nat → Nat} {V : Nat → hB} {FS : Nat → Int32 × Bool} {eA lA : Nat → Int32} {win dmp lm : Int32} {j : Nat} (he : ∀ y, (V j).1 = some y → lm = lA y) (fo : Int32) (sp : Bool) (hfs : vFS eA win dmp V FS j = (fo, sp)) :
    (if (V j).1.isSome then oHook (nI (j / 8)) (bef hk j) (aft hk j) (V j).1 (dFr (V j).2.1 fo) (dBk (V j).2.2.1 fo) (dWd lm (dFr (V j).2.1 fo) (dBk (V j).2.2.1 fo) (V j).2.2.2.1) (dM2 (dM1 (dWd lm (dFr (V j).2.1 fo) (dBk (V j).2.2.1 fo) (V j).2.2.2.1) (V j).2.2.2.2) sp) fo (bI sp) else oHook (nI (j / 8)) (bef hk j) (aft hk j) (V j).1 (V j).2.1 (V j).2.2.1 (V j).2.2.2.1 (V j).2.2.2.2 fo (bI sp))
    = hkC hk j (vDay eA lA win dmp V j) (fo, sp) := by
  unfold vDay
  unfold vFS at hfs
  cases hv : (V j).1 with
  | none => simp [hkC, hv]
  | some y =>
    rw [hv] at hfs
    obtain ⟨rfl, rfl⟩ := Prod.mk.inj hfs
    rw [he y hv]
    simp [hkC, dBun, hv]
set_option maxRecDepth 100000 in
set_option maxHeartbeats 4000000 in
theorem c_X3_hookAt (Γ : hGam) (l : Launch) {M : hM} {r : Nat} {hk : Nat → Nat} (p q : Int32) (hr : rkS Γ M r hk) : hMet Γ l yX3_hookAt cX3_hookAt 3 (some (.object RX1)) rm_X3_hookAt [.ref r, .int p, .int q] M (hpO M (hkAtO hk p q)) := by
  obtain ⟨hI, arr, hf, h1, h2, h3⟩ := hr
  refine hMet_of (by decide +kernel) (Nat.le_of_ble_eq_true rfl) (hCat_cons rfl (hCat_cons rfl (hCat_cons rfl hCat_nil))) (fun k C => ?_)
  show hG _ _ _ _ _ _ _ _ [some (.ref r), some (.int p), some (.int q)] _
  refine g_iload_n (q := 1) C dX3_hookAt_0 rfl rfl ?_
  refine g_iconst (q := 2) (0) C dX3_hookAt_1 (by decide) rfl ?_
  refine g_iconst (q := 3) (4) C dX3_hookAt_2 (by decide) rfl ?_
  refine g_callSN3P (q := 6) C hy_X4_isWithin (c_X4_isWithin Γ l _ _ _) qw_143 ⟨Nat.le_of_ble_eq_true rfl, Nat.le_of_ble_eq_true rfl⟩ (Nat.le_of_ble_eq_true rfl) rfl dX3_hookAt_3 ⟨rfl, rfl⟩ ⟨Nat.zero_le _, Nat.zero_le _⟩ rfl ?_
  refine g_ifB_eq (t := 19) (q := 9) C dX3_hookAt_6 (by decide) rfl (fun c_6 => ?_) (fun c_6 => ?_)
  · skip
    refine g_null (q := 20) C dX3_hookAt_19 rfl ?_
    exact g_aret C dX3_hookAt_20 (by first | exact Or.inl ⟨_, rfl⟩ | exact Or.inr ⟨_, rfl⟩) rfl (⟨by unfold hkAtO inStr; rw [c_6] <;> rfl, rfl⟩) (Nat.zero_le _) (Nat.zero_le _)
  · skip
    refine g_iload_n (q := 10) C dX3_hookAt_9 rfl rfl ?_
    refine g_iconst (q := 11) (0) C dX3_hookAt_10 (by decide) rfl ?_
    refine g_bipush (q := 13) (7) C dX3_hookAt_11 (by decide) rfl ?_
    refine g_callSN3P (q := 16) C hy_X4_isWithin (c_X4_isWithin Γ l _ _ _) qw_143 ⟨Nat.le_of_ble_eq_true rfl, Nat.le_of_ble_eq_true rfl⟩ (Nat.le_of_ble_eq_true rfl) rfl dX3_hookAt_13 ⟨rfl, rfl⟩ ⟨Nat.zero_le _, Nat.zero_le _⟩ rfl ?_
    refine g_ifB_ne (t := 21) (q := 19) C dX3_hookAt_16 (by decide) rfl (fun c_16 => ?_) (fun c_16 => ?_)
    · skip
      obtain ⟨a, ha, rfl⟩ := h_rng c_6 rfl (N := 4) rfl
      obtain ⟨b, hb, rfl⟩ := h_rng c_16 rfl (N := 7) rfl
      refine g_aload_n (q := 22) C dX3_hookAt_21 rfl (by first | exact hRef_r _ | exact hRef_o _ | exact hRef_n) rfl ?_
      refine g_get (q := 25) C hcl_X3 0 (by decide) qw_112 rfl dX3_hookAt_22 (by exact h1) rfl rfl ?_
      refine g_iload_n (q := 26) C dX3_hookAt_25 rfl rfl ?_
      refine g_bipush (q := 28) (8) C dX3_hookAt_26 (by decide) rfl ?_
      refine g_imul (q := 29) C dX3_hookAt_28 rfl ?_
      refine g_iload_n (q := 30) C dX3_hookAt_29 rfl rfl ?_
      refine g_iadd (q := 31) C dX3_hookAt_30 rfl ?_
      refine g_aaldHr (q := 32) (N := 40) C (a * 8 + b) ix_eq (by omega) (by decide) dX3_hookAt_31 (by exact h2) (h3 _ (by omega)) rfl ?_
      exact g_aret C dX3_hookAt_32 (by first | exact Or.inl ⟨_, rfl⟩ | exact Or.inr ⟨_, rfl⟩) rfl (⟨by unfold hkAtO inStr inHok; rw [c_6, c_16, ixOf_nI ha hb] <;> rfl, rfl⟩) (Nat.zero_le _) (Nat.zero_le _)
    · skip
      refine g_null (q := 20) C dX3_hookAt_19 rfl ?_
      exact g_aret C dX3_hookAt_20 (by first | exact Or.inl ⟨_, rfl⟩ | exact Or.inr ⟨_, rfl⟩) rfl (⟨by unfold hkAtO inStr inHok; rw [c_6, c_16] <;> rfl, rfl⟩) (Nat.zero_le _) (Nat.zero_le _)
set_option maxRecDepth 100000 in
set_option maxHeartbeats 4000000 in
theorem c_X3_copyAllOf (Γ : hGam) (l : Launch) {M : hM} {r : Nat} {hk : Nat → Nat} {V : Nat → hB} {FS : Nat → Int32 × Bool} {r2 : Nat} {hk2 : Nat → Nat} {V2 : Nat → hB} {FS2 : Nat → Int32 × Bool} (hr : rkS Γ M r hk) (hF : hkF M hk V FS) (hr2 : rkS Γ M r2 hk2) (hF2 : hkF M hk2 V2 FS2) (hdis : ∀ i j, i < 40 → j < 40 → hk i ≠ hk2 j) : hMet Γ l yX3_copyAllOf cX3_copyAllOf 3 none rm_X3_copyAllOf [.ref r, .ref r2] M (hpV (fun M1 => hkF M1 hk V2 FS ∧ hOff M M1 (onHk hk))) := by
  obtain ⟨hI, arr, hf, h1, h2, h3⟩ := hr
  obtain ⟨hI2, arr2, hf2, h4, h5, h6⟩ := hr2
  refine hMet_of (by decide +kernel) (Nat.le_of_ble_eq_true rfl) (hCat_cons rfl (hCat_cons rfl hCat_nil)) (fun k C => ?_)
  show hG _ _ _ _ _ _ _ _ [some (.ref r), some (.ref r2), none] _
  refine g_iconst (q := 1) (0) C dX3_copyAllOf_0 (by decide) rfl ?_
  refine g_istore2 (q := 2) C dX3_copyAllOf_1 (by first | rfl | exact hNw_rf _) rfl ?_
  refine h_loopU (P := fun j => ∀ M1 : hM, hkF M1 hk (vMix j V2 V) FS → hOff M M1 (onHk hk) → hG Γ k _ _ M1 0 0 2 [some (.ref r), some (.ref r2), some (.int (nI j))] []) (N := 40) (fun j hj ih => ?_) 0 (Nat.zero_le _) M (by rw [vMix_0]; exact hF) hOff.rf
  intro M1 hF1 ho1
  have g1 : M1 r = some (true, oRack (some arr)) := (ho1 _ (hF.notOn h1 (fun fs q => by cases q))).trans h1
  have g2 : M1 arr = some (true, aH Γ 40 hf) := (ho1 _ (hF.notOn h2 (fun fs q => by cases q))).trans h2
  have g4 : M1 r2 = some (true, oRack (some arr2)) := (ho1 _ (hF.notOn h4 (fun fs q => by cases q))).trans h4
  have g5 : M1 arr2 = some (true, aH Γ 40 hf2) := (ho1 _ (hF.notOn h5 (fun fs q => by cases q))).trans h5
  have hF2b : hkF M1 hk2 V2 FS2 := hF2.off ho1 (fun i hi q => by obtain ⟨i2, hi2, e⟩ := q; exact hdis i2 i hi2 hi e.symm)
  refine g_iload_n (q := 3) C dX3_copyAllOf_2 rfl rfl ?_
  refine g_aload_n (q := 4) C dX3_copyAllOf_3 rfl (by first | exact hRef_r _ | exact hRef_o _ | exact hRef_n) rfl ?_
  refine g_get (q := 7) C hcl_X3 0 (by decide) qw_112 rfl dX3_copyAllOf_4 (by first | exact g1 | exact g4) rfl rfl ?_
  refine g_alenH (q := 8) C dX3_copyAllOf_7 (by exact g2) rfl ?_
  refine g_icmp_ge (t := 41) (q := 11) C dX3_copyAllOf_8 (by decide) rfl (fun c_8 => ?_) (fun c_8 => ?_)
  · skip
    have hN_8 := nI_ge_eq hj (by decide) c_8
    subst hN_8
    exact g_vret C dX3_copyAllOf_41 (⟨hF1.mixN, ho1⟩) (Nat.zero_le _) (Nat.zero_le _)
  · skip
    have hlt := nI_nge_lt hj (by decide) c_8
    refine g_iload_n (q := 12) C dX3_copyAllOf_11 rfl rfl ?_
    refine g_aload_n (q := 13) C dX3_copyAllOf_12 rfl (by first | exact hRef_r _ | exact hRef_o _ | exact hRef_n) rfl ?_
    refine g_get (q := 16) C hcl_X3 0 (by decide) qw_112 rfl dX3_copyAllOf_13 (by first | exact g1 | exact g4) rfl rfl ?_
    refine g_alenH (q := 17) C dX3_copyAllOf_16 (by exact g5) rfl ?_
    refine g_icmp_ge (t := 41) (q := 20) C dX3_copyAllOf_17 (by decide) rfl (fun c_17 => ?_) (fun c_17 => ?_)
    · skip
      exact absurd c_17 (fun q => absurd ((nI_leI (by decide) (by omega)).mp q) (by omega))
    · skip
      refine g_aload_n (q := 21) C dX3_copyAllOf_20 rfl (by first | exact hRef_r _ | exact hRef_o _ | exact hRef_n) rfl ?_
      refine g_get (q := 24) C hcl_X3 0 (by decide) qw_112 rfl dX3_copyAllOf_21 (by first | exact g1 | exact g4) rfl rfl ?_
      refine g_iload_n (q := 25) C dX3_copyAllOf_24 rfl rfl ?_
      refine g_aaldHr (q := 26) C j rfl hlt (by decide) dX3_copyAllOf_25 (by exact g2) (h3 j hlt) rfl ?_
      refine g_aload_n (q := 27) C dX3_copyAllOf_26 rfl (by first | exact hRef_r _ | exact hRef_o _ | exact hRef_n) rfl ?_
      refine g_get (q := 30) C hcl_X3 0 (by decide) qw_112 rfl dX3_copyAllOf_27 (by first | exact g1 | exact g4) rfl rfl ?_
      refine g_iload_n (q := 31) C dX3_copyAllOf_30 rfl rfl ?_
      refine g_aaldHr (q := 32) C j rfl hlt (by decide) dX3_copyAllOf_31 (by exact g5) (h6 j hlt) rfl ?_
      refine g_callV1V (q := 35) C hy_X1_copyBundleOf (c_X1_copyBundleOf Γ l (hF1 j hlt) (hF2b j hlt) (fun q => hdis j j hlt hlt q.symm)) qw_446 (by exact hF1 j hlt) rfl ⟨Nat.le_of_ble_eq_true rfl, Nat.le_of_ble_eq_true rfl⟩ (Nat.le_of_ble_eq_true rfl) rfl dX3_copyAllOf_32 ⟨rfl, rfl⟩ ⟨Nat.zero_le _, Nat.zero_le _⟩ rfl (fun M_32 p_32 => ?_)
      refine g_iinc2 (q := 38) (1) C dX3_copyAllOf_35 (by decide) (by first | rfl | exact hNw_rf _) rfl ?_
      refine g_goto (t := 2) C dX3_copyAllOf_38 (by decide) ?_
      rw [nI_1]
      refine ih hlt _ ?_ ?_
      · rw [p_32]
        exact hF1.step hI hlt
      · rw [p_32]
        exact ho1.put ⟨j, hlt, rfl⟩
set_option maxRecDepth 100000 in
set_option maxHeartbeats 4000000 in
theorem c_X3_turnAllOn (Γ : hGam) (l : Launch) {M : hM} {r : Nat} {hk : Nat → Nat} {V : Nat → hB} {FS : Nat → Int32 × Bool} {sN : Nat} (hr : rkS Γ M r hk) (hF : hkF M hk V FS) (hsN : sN < 5) : hMet Γ l yX3_turnAllOn cX3_turnAllOn 7 (some .int) rm_X3_turnAllOn [.ref r, .int (nI sN)] M (hpI (fun x M1 => x = hIt (fTurn sN V) 0 40 ∧ hkF M1 hk (vTurn sN V) FS ∧ hOff M M1 (onHk hk))) := by
  obtain ⟨hI, arr, hf, h1, h2, h3⟩ := hr
  refine hMet_of (by decide +kernel) (Nat.le_of_ble_eq_true rfl) (hCat_cons rfl (hCat_cons rfl hCat_nil)) (fun k C => ?_)
  show hG _ _ _ _ _ _ _ _ [some (.ref r), some (.int (nI sN)), none, none, none, none, none] _
  refine g_iconst (q := 1) (0) C dX3_turnAllOn_0 (by decide) rfl ?_
  refine g_istore2 (q := 2) C dX3_turnAllOn_1 (by first | rfl | exact hNw_rf _) rfl ?_
  refine g_aload_n (q := 3) C dX3_turnAllOn_2 rfl (by first | exact hRef_r _ | exact hRef_o _ | exact hRef_n) rfl ?_
  refine g_get (q := 6) C hcl_X3 0 (by decide) qw_112 rfl dX3_turnAllOn_3 (by first | exact h1 | exact hF1 j hlt) rfl rfl ?_
  refine g_astore3 (q := 7) C dX3_turnAllOn_6 (by first | exact hRef_r _ | exact hRef_o _ | exact hRef_n) (by first | rfl | exact hNw_rf _) rfl ?_
  refine g_aload_n (q := 8) C dX3_turnAllOn_7 rfl (by first | exact hRef_r _ | exact hRef_o _ | exact hRef_n) rfl ?_
  refine g_alenH (q := 9) C dX3_turnAllOn_8 (by exact h2) rfl ?_
  refine g_istore4 (q := 11) C dX3_turnAllOn_9 (by first | rfl | exact hNw_rf _) rfl ?_
  refine g_iconst (q := 12) (0) C dX3_turnAllOn_11 (by decide) rfl ?_
  refine g_istore5 (q := 14) C dX3_turnAllOn_12 (by first | rfl | exact hNw_rf _) rfl ?_
  refine h_loopU (P := fun j => ∀ (M1 : hM) (acc : Int32) (o : Option Value), acc = hIt (fTurn sN V) 0 j → hkF M1 hk (vMix j (vTurn sN V) V) FS → hOff M M1 (onHk hk) → hG Γ k _ _ M1 0 0 14 [some (.ref r), some (.int (nI sN)), some (.int acc), some (.ref arr), some (.int (nI 40)), some (.int (nI j)), o] []) (N := 40) (fun j hj ih => ?_) 0 (Nat.zero_le _) M _ _ rfl (by rw [vMix_0]; exact hF) hOff.rf
  intro M1 acc o hacc hF1 ho1
  have g2 : M1 arr = some (true, aH Γ 40 hf) := (ho1 _ (hF.notOn h2 (fun fs q => by cases q))).trans h2
  refine g_iload (q := 16) C dX3_turnAllOn_14 rfl rfl ?_
  refine g_iload (q := 18) C dX3_turnAllOn_16 rfl rfl ?_
  refine g_icmp_ge (t := 58) (q := 21) C dX3_turnAllOn_18 (by decide) rfl (fun c_18 => ?_) (fun c_18 => ?_)
  · skip
    have hN_18 := nI_ge_eq hj (by decide) c_18
    subst hN_18
    refine g_iload_n (q := 59) C dX3_turnAllOn_58 rfl rfl ?_
    exact g_iret C dX3_turnAllOn_59 (⟨hacc, hF1.mixN, ho1⟩) (Nat.zero_le _) (Nat.zero_le _)
  · skip
    have hlt := nI_nge_lt hj (by decide) c_18
    refine g_aload_n (q := 22) C dX3_turnAllOn_21 rfl (by first | exact hRef_r _ | exact hRef_o _ | exact hRef_n) rfl ?_
    refine g_iload (q := 24) C dX3_turnAllOn_22 rfl rfl ?_
    refine g_aaldHr (q := 25) C j rfl hlt (by decide) dX3_turnAllOn_24 (by exact g2) (h3 j hlt) rfl ?_
    refine g_astore6 (q := 27) C dX3_turnAllOn_25 (by first | exact hRef_r _ | exact hRef_o _ | exact hRef_n) (by first | rfl | exact hNw_rf _) rfl ?_
    refine g_aload (q := 29) C dX3_turnAllOn_27 rfl (by first | exact hRef_r _ | exact hRef_o _ | exact hRef_n) rfl ?_
    refine g_get (q := 32) C hcl_X1 0 (by decide) qw_79 rfl dX3_turnAllOn_29 (by first | exact h1 | exact hF1 j hlt) rfl rfl ?_
    refine g_iload_n (q := 33) C dX3_turnAllOn_32 rfl rfl ?_
    refine g_icmp_ne (t := 52) (q := 36) C dX3_turnAllOn_33 (by decide) rfl (fun c_33 => ?_) (fun c_33 => ?_)
    · skip
      refine g_iinc5 (q := 55) (1) C dX3_turnAllOn_52 (by decide) (by first | rfl | exact hNw_rf _) rfl ?_
      refine g_goto (t := 14) C dX3_turnAllOn_55 (by decide) ?_
      rw [nI_1]
      have hno : ¬ (j / 8 = sN ∧ (V j).1.isSome = true) := fun q => c_33 (by rw [q.1])
      refine ih hlt _ _ _ ?_ ?_ ho1
      · rw [hIt_s, ← hacc]; exact (if_neg hno).symm
      · rw [vMix_k (show vTurn sN V j = V j from if_neg hno)]
        exact hF1
    · skip
      refine g_aload (q := 38) C dX3_turnAllOn_36 rfl (by first | exact hRef_r _ | exact hRef_o _ | exact hRef_n) rfl ?_
      refine g_callV0P (q := 41) C hy_X1_isTaken (c_X1_isTaken Γ l (hF1 j hlt)) qw_262 (by exact hF1 j hlt) rfl ⟨Nat.le_of_ble_eq_true rfl, Nat.le_of_ble_eq_true rfl⟩ (Nat.le_of_ble_eq_true rfl) rfl dX3_turnAllOn_38 ⟨rfl, rfl⟩ ⟨Nat.zero_le _, Nat.zero_le _⟩ rfl ?_
      refine g_ifB_eq (t := 52) (q := 44) C dX3_turnAllOn_41 (by decide) rfl (fun c_41 => ?_) (fun c_41 => ?_)
      · skip
        refine g_iinc5 (q := 55) (1) C dX3_turnAllOn_52 (by decide) (by first | rfl | exact hNw_rf _) rfl ?_
        refine g_goto (t := 14) C dX3_turnAllOn_55 (by decide) ?_
        rw [nI_1]
        have hno : ¬ (j / 8 = sN ∧ (V j).1.isSome = true) := fun q => by rw [vMix_at] at c_41; rw [q.2] at c_41; cases c_41
        refine ih hlt _ _ _ ?_ ?_ ho1
        · rw [hIt_s, ← hacc]; exact (if_neg hno).symm
        · rw [vMix_k (show vTurn sN V j = V j from if_neg hno)]
          exact hF1
      · skip
        refine g_aload (q := 46) C dX3_turnAllOn_44 rfl (by first | exact hRef_r _ | exact hRef_o _ | exact hRef_n) rfl ?_
        refine g_callV0V (q := 49) C hy_X1_exchangeSides (c_X1_exchangeSides Γ l (hF1 j hlt)) qw_263 (by exact hF1 j hlt) rfl ⟨Nat.le_of_ble_eq_true rfl, Nat.le_of_ble_eq_true rfl⟩ (Nat.le_of_ble_eq_true rfl) rfl dX3_turnAllOn_46 ⟨rfl, rfl⟩ ⟨Nat.zero_le _, Nat.zero_le _⟩ rfl (fun M_46 p_46 => ?_)
        refine g_iinc2 (q := 52) (1) C dX3_turnAllOn_49 (by decide) (by first | rfl | exact hNw_rf _) rfl ?_
        refine g_iinc5 (q := 55) (1) C dX3_turnAllOn_52 (by decide) (by first | rfl | exact hNw_rf _) rfl ?_
        refine g_goto (t := 14) C dX3_turnAllOn_55 (by decide) ?_
        rw [nI_1]
        have hs : j / 8 = sN := (nI_eq (by omega) (by omega)).mp c_33
        have hy : (V j).1.isSome = true := by rw [vMix_at] at c_41; exact c_41
        refine ih hlt _ _ _ ?_ ?_ ?_
        · rw [hIt_s, ← hacc]; exact (if_pos ⟨hs, hy⟩).symm
        · rw [p_46, vMix_at]
          have hst := hF1.step hI hlt
          rw [show vTurn sN V j = bSwp (V j) from if_pos ⟨hs, hy⟩] at hst
          exact hst
        · rw [p_46]
          exact ho1.put ⟨j, hlt, rfl⟩
set_option maxRecDepth 100000 in
set_option maxHeartbeats 4000000 in
theorem c_X3_letDaysGo (Γ : hGam) (l : Launch) {M : hM} {r : Nat} {hk : Nat → Nat} {V : Nat → hB} {FS : Nat → Int32 × Bool} {eA lA : Nat → Int32} (win dmp : Int32) {dn : Nat} (hr : rkS Γ M r hk) (hF : hkF M hk V FS) (hH : hbF M V eA lA) (hdn : dn < 1000) : hMet Γ l yX3_letDaysGo cX3_letDaysGo 9 none rm_X3_letDaysGo [.ref r, .int (nI dn), .int win, .int dmp] M (hpV (fun M1 => (∃ FS1, hkF M1 hk (vDays eA lA win dmp V dn) FS1) ∧ hOff M M1 (onHk hk))) := by
  obtain ⟨hI, arr, hf, h1, h2, h3⟩ := hr
  refine hMet_of (by decide +kernel) (Nat.le_of_ble_eq_true rfl) (hCat_cons rfl (hCat_cons rfl (hCat_cons rfl (hCat_cons rfl hCat_nil)))) (fun k C => ?_)
  show hG _ _ _ _ _ _ _ _ [some (.ref r), some (.int (nI dn)), some (.int win), some (.int dmp), none, none, none, none, none] _
  refine g_iconst (q := 1) (0) C dX3_letDaysGo_0 (by decide) rfl ?_
  refine g_istore4 (q := 3) C dX3_letDaysGo_1 (by first | rfl | exact hNw_rf _) rfl ?_
  refine h_loopU (P := fun i => ∀ (M1 : hM) (FS1 : Nat → Int32 × Bool) (o5 o6 o7 o8 : Option Value), hkF M1 hk (vDays eA lA win dmp V i) FS1 → hOff M M1 (onHk hk) → hG Γ k _ _ M1 0 0 3 [some (.ref r), some (.int (nI dn)), some (.int win), some (.int dmp), some (.int (nI i)), o5, o6, o7, o8] []) (N := dn) (fun i hi ihD => ?_) 0 (Nat.zero_le _) M FS _ _ _ _ hF hOff.rf
  intro M1 FS1 o5 o6 o7 o8 hF1 ho1
  have g1 : M1 r = some (true, oRack (some arr)) := (ho1 _ (hF.notOn h1 (fun fs q => by cases q))).trans h1
  have g2 : M1 arr = some (true, aH Γ 40 hf) := (ho1 _ (hF.notOn h2 (fun fs q => by cases q))).trans h2
  refine g_iload (q := 5) C dX3_letDaysGo_3 rfl rfl ?_
  refine g_iload_n (q := 6) C dX3_letDaysGo_5 rfl rfl ?_
  refine g_icmp_ge (t := 95) (q := 9) C dX3_letDaysGo_6 (by decide) rfl (fun c_6 => ?_) (fun c_6 => ?_)
  · skip
    have hN_6 := nI_ge_eq hi (by omega) c_6
    subst hN_6
    exact g_vret C dX3_letDaysGo_95 (⟨⟨_, hF1⟩, ho1⟩) (Nat.zero_le _) (Nat.zero_le _)
  · skip
    have hltD := nI_nge_lt hi (by omega) c_6
    refine g_aload_n (q := 10) C dX3_letDaysGo_9 rfl (by first | exact hRef_r _ | exact hRef_o _ | exact hRef_n) rfl ?_
    refine g_get (q := 13) C hcl_X3 0 (by decide) qw_112 rfl dX3_letDaysGo_10 (by first | exact g1 | exact (ho2 _ (hF.notOn h1 (fun fs q => by cases q))).trans h1) rfl rfl ?_
    refine g_astore5 (q := 15) C dX3_letDaysGo_13 (by first | exact hRef_r _ | exact hRef_o _ | exact hRef_n) (by first | rfl | exact hNw_rf _) rfl ?_
    refine g_aload (q := 17) C dX3_letDaysGo_15 rfl (by first | exact hRef_r _ | exact hRef_o _ | exact hRef_n) rfl ?_
    refine g_alenH (q := 18) C dX3_letDaysGo_17 (by exact g2) rfl ?_
    refine g_istore6 (q := 20) C dX3_letDaysGo_18 (by first | rfl | exact hNw_rf _) rfl ?_
    refine g_iconst (q := 21) (0) C dX3_letDaysGo_20 (by decide) rfl ?_
    refine g_istore7 (q := 23) C dX3_letDaysGo_21 (by first | rfl | exact hNw_rf _) rfl ?_
    refine h_loopU (P := fun j => ∀ (M2 : hM) (o8 : Option Value), hkF M2 hk (vDays eA lA win dmp V i) (vMix j (vFS eA win dmp (vDays eA lA win dmp V i) FS1) FS1) → hOff M M2 (onHk hk) → hG Γ k _ _ M2 0 0 23 [some (.ref r), some (.int (nI dn)), some (.int win), some (.int dmp), some (.int (nI i)), some (.ref arr), some (.int (nI 40)), some (.int (nI j)), o8] []) (N := 40) (fun j hj ih => ?_) 0 (Nat.zero_le _) M1 _ (by rw [vMix_0]; exact hF1) ho1
    intro M2 o8 hF2 ho2
    have g3 : M2 arr = some (true, aH Γ 40 hf) := (ho2 _ (hF.notOn h2 (fun fs q => by cases q))).trans h2
    have hbW : hbF M2 (vDays eA lA win dmp V i) eA lA := fun a ha y hy => hbF.off hH hF ho2 a ha y (by rw [← hy]; exact (vDays_1 eA lA win dmp V a i).symm)
    refine g_iload (q := 25) C dX3_letDaysGo_23 rfl rfl ?_
    refine g_iload (q := 27) C dX3_letDaysGo_25 rfl rfl ?_
    refine g_icmp_ge (t := 50) (q := 30) C dX3_letDaysGo_27 (by decide) rfl (fun c_27 => ?_) (fun c_27 => ?_)
    · skip
      have hN_27 := nI_ge_eq hj (by decide) c_27
      subst hN_27
      refine g_aload_n (q := 51) C dX3_letDaysGo_50 rfl (by first | exact hRef_r _ | exact hRef_o _ | exact hRef_n) rfl ?_
      refine g_get (q := 54) C hcl_X3 0 (by decide) qw_112 rfl dX3_letDaysGo_51 (by exact (ho2 _ (hF.notOn h1 (fun fs q => by cases q))).trans h1) rfl rfl ?_
      refine g_astore5 (q := 56) C dX3_letDaysGo_54 (by first | exact hRef_r _ | exact hRef_o _ | exact hRef_n) (by first | rfl | exact hNw_rf _) rfl ?_
      refine g_aload (q := 58) C dX3_letDaysGo_56 rfl (by first | exact hRef_r _ | exact hRef_o _ | exact hRef_n) rfl ?_
      refine g_alenH (q := 59) C dX3_letDaysGo_58 (by exact g3) rfl ?_
      refine g_istore6 (q := 61) C dX3_letDaysGo_59 (by first | rfl | exact hNw_rf _) rfl ?_
      refine g_iconst (q := 62) (0) C dX3_letDaysGo_61 (by decide) rfl ?_
      refine g_istore7 (q := 64) C dX3_letDaysGo_62 (by first | rfl | exact hNw_rf _) rfl ?_
      refine h_loopU (P := fun j => ∀ (M3 : hM) (o8 : Option Value), hkF M3 hk (vMix j (vDay eA lA win dmp (vDays eA lA win dmp V i)) (vDays eA lA win dmp V i)) (vFS eA win dmp (vDays eA lA win dmp V i) FS1) → hOff M M3 (onHk hk) → hG Γ k _ _ M3 0 0 64 [some (.ref r), some (.int (nI dn)), some (.int win), some (.int dmp), some (.int (nI i)), some (.ref arr), some (.int (nI 40)), some (.int (nI j)), o8] []) (N := 40) (fun j hj ih2 => ?_) 0 (Nat.zero_le _) _ _ (by rw [vMix_0]; exact hF2.mixF) ho2
      intro M3 o8b hF3 ho3
      have g5 : M3 arr = some (true, aH Γ 40 hf) := (ho3 _ (hF.notOn h2 (fun fs q => by cases q))).trans h2
      have hbX : hbF M3 (vDays eA lA win dmp V i) eA lA := fun a ha y hy => hbF.off hH hF ho3 a ha y (by rw [← hy]; exact (vDays_1 eA lA win dmp V a i).symm)
      refine g_iload (q := 66) C dX3_letDaysGo_64 rfl rfl ?_
      refine g_iload (q := 68) C dX3_letDaysGo_66 rfl rfl ?_
      refine g_icmp_ge (t := 89) (q := 71) C dX3_letDaysGo_68 (by decide) rfl (fun c_68 => ?_) (fun c_68 => ?_)
      · skip
        have hN_68 := nI_ge_eq hj (by decide) c_68
        subst hN_68
        refine g_iinc4 (q := 92) (1) C dX3_letDaysGo_89 (by decide) (by first | rfl | exact hNw_rf _) rfl ?_
        refine g_goto (t := 3) C dX3_letDaysGo_92 (by decide) ?_
        rw [nI_1]
        exact ihD hltD _ _ _ _ _ _ hF3.mixN ho3
      · skip
        have hlt2 := nI_nge_lt hj (by decide) c_68
        refine g_aload (q := 73) C dX3_letDaysGo_71 rfl (by first | exact hRef_r _ | exact hRef_o _ | exact hRef_n) rfl ?_
        refine g_iload (q := 75) C dX3_letDaysGo_73 rfl rfl ?_
        refine g_aaldHr (q := 76) C j rfl hlt2 (by decide) dX3_letDaysGo_75 (by exact g5) (h3 j hlt2) rfl ?_
        refine g_astore8 (q := 78) C dX3_letDaysGo_76 (by first | exact hRef_r _ | exact hRef_o _ | exact hRef_n) (by first | rfl | exact hNw_rf _) rfl ?_
        have hel0 : ∃ ea lm : Int32, (∀ y, (vDays eA lA win dmp V i j).1 = some y → ea = eA y ∧ lm = lA y) := by
          cases hv : (vDays eA lA win dmp V i j).1 with
          | none => exact ⟨0, 0, fun y q => by cases q⟩
          | some y => exact ⟨eA y, lA y, fun y2 q => by cases q; exact ⟨rfl, rfl⟩⟩
        obtain ⟨ea, lm, hel⟩ := hel0
        have hF3b := hF3 j hlt2
        refine g_aload (q := 80) C dX3_letDaysGo_78 rfl (by first | exact hRef_r _ | exact hRef_o _ | exact hRef_n) rfl ?_
        refine g_callV0V (q := 83) C hy_X1_endDay (c_X1_endDay Γ l (e := ea) (lm := lm) hF3b (fun y hy => by rw [vMix_at] at hy; obtain ⟨w, hn, e⟩ := hbX j hlt2 y hy; rw [(hel y hy).1, (hel y hy).2]; exact ⟨w, hn, e⟩) (fun y hy q => by rw [vMix_at] at hy; obtain ⟨w, hn, e⟩ := hbX j hlt2 y hy; rw [q, hF3b] at e; cases e)) qw_356 (by exact hF3b) rfl ⟨Nat.le_of_ble_eq_true rfl, Nat.le_of_ble_eq_true rfl⟩ (Nat.le_of_ble_eq_true rfl) rfl dX3_letDaysGo_80 ⟨rfl, rfl⟩ ⟨Nat.zero_le _, Nat.zero_le _⟩ rfl (fun M_80 p_80 => ?_)
        refine g_iinc7 (q := 86) (1) C dX3_letDaysGo_83 (by decide) (by first | rfl | exact hNw_rf _) rfl ?_
        refine g_goto (t := 64) C dX3_letDaysGo_86 (by decide) ?_
        rw [nI_1]
        rw [vMix_at] at p_80
        rw [end_eq (hk := hk) (V := vDays eA lA win dmp V i) (FS := FS1) (fun y hy => (hel y hy).2) (vFS eA win dmp (vDays eA lA win dmp V i) FS1 j).1 (vFS eA win dmp (vDays eA lA win dmp V i) FS1 j).2 rfl] at p_80
        refine ih2 hlt2 _ _ ?_ ?_
        · rw [p_80]
          exact hF3.step hI hlt2
        · rw [p_80]
          exact ho3.put ⟨j, hlt2, rfl⟩
    · skip
      have hlt := nI_nge_lt hj (by decide) c_27
      refine g_aload (q := 32) C dX3_letDaysGo_30 rfl (by first | exact hRef_r _ | exact hRef_o _ | exact hRef_n) rfl ?_
      refine g_iload (q := 34) C dX3_letDaysGo_32 rfl rfl ?_
      refine g_aaldHr (q := 35) C j rfl hlt (by decide) dX3_letDaysGo_34 (by exact g3) (h3 j hlt) rfl ?_
      refine g_astore8 (q := 37) C dX3_letDaysGo_35 (by first | exact hRef_r _ | exact hRef_o _ | exact hRef_n) (by first | rfl | exact hNw_rf _) rfl ?_
      have hel0 : ∃ ea lm : Int32, (∀ y, (vDays eA lA win dmp V i j).1 = some y → ea = eA y ∧ lm = lA y) := by
        cases hv : (vDays eA lA win dmp V i j).1 with
        | none => exact ⟨0, 0, fun y q => by cases q⟩
        | some y => exact ⟨eA y, lA y, fun y2 q => by cases q; exact ⟨rfl, rfl⟩⟩
      obtain ⟨ea, lm, hel⟩ := hel0
      refine g_aload (q := 39) C dX3_letDaysGo_37 rfl (by first | exact hRef_r _ | exact hRef_o _ | exact hRef_n) rfl ?_
      refine g_iload_n (q := 40) C dX3_letDaysGo_39 rfl rfl ?_
      refine g_iload_n (q := 41) C dX3_letDaysGo_40 rfl rfl ?_
      refine g_callV2V (q := 44) C hy_X1_beginDay (c_X1_beginDay Γ l (e := ea) (lm := lm) win dmp (hF2 j hlt) (hF2.bef hlt) (hF2.aft hlt) (hI.befN hlt) (hI.aftN hlt) (fun y hy => by obtain ⟨w, hn, e⟩ := hbW j hlt y hy; rw [(hel y hy).1, (hel y hy).2]; exact ⟨w, hn, e⟩)) qw_337 (by exact hF2 j hlt) rfl ⟨Nat.le_of_ble_eq_true rfl, Nat.le_of_ble_eq_true rfl⟩ (Nat.le_of_ble_eq_true rfl) rfl dX3_letDaysGo_41 ⟨rfl, rfl⟩ ⟨Nat.zero_le _, Nat.zero_le _⟩ rfl (fun M_41 p_41 => ?_)
      refine g_iinc7 (q := 47) (1) C dX3_letDaysGo_44 (by decide) (by first | rfl | exact hNw_rf _) rfl ?_
      refine g_goto (t := 23) C dX3_letDaysGo_47 (by decide) ?_
      rw [nI_1]
      rw [vMix_at] at p_41
      rw [begin_eq (FS := FS1) (fun y hy => (hel y hy).1)] at p_41
      refine ih hlt _ _ ?_ ?_
      · rw [p_41]
        exact hF2.stepF hI hlt
      · rw [p_41]
        exact ho2.put ⟨j, hlt, rfl⟩
