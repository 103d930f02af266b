/-! ===== a herb more, an order more, a bundle given ===== -/
section hPic2
variable {Γ : hGam} {M M2 : hM} {x : Nat} {S : hS} {hl ol rk tr edh edo : Nat} {hb ob hk hk2 : Nat → Nat} {V V2 : Nat → hB} {g0 : Nat → Option Nat}
/-- all is kept but the list at a, and its array ed unless that is the empty one -/
def hKl (Γ : hGam) (M M2 : hM) (a ed : Nat) : Prop := ∀ (c : Nat) (w : Bool) (e : va_E), M c = some (w, e) → c ≠ a → (c = ed → ed = Γ.2.2.1) → M2 c = some (w, e)
theorem hKl.of {a ed b : Nat} {e : va_E} (eb : M b = none) (ho : hOff (hU M b e) M2 (fun q => q = a ∨ (q = ed ∧ ed ≠ Γ.2.2.1) ∨ hU M b e q = none)) : hKl Γ M M2 a ed := fun c w e' hc h1 h2 => by
  have hcb : c ≠ b := fun q => by rw [q, eb] at hc; cases hc
  have hc1 : hU M b e c = some (w, e') := (hU_n hcb).trans hc
  refine (ho c (fun q => ?_)).trans hc1
  rcases q with q | ⟨q, q2⟩ | q
  · exact h1 q
  · exact q2 (h2 q)
  · rw [hc1] at q; cases q
theorem lsP.d {a ed n : Nat} {e : Nat → Nat} (h : lsP Γ M a ed n e) : ∃ (mod : Int32) (w : Bool) (cap : Nat) (g : Nat → Option Nat), M a = some (true, oList mod (some ed) (nI n)) ∧ M ed = some (w, aO Γ cap g) ∧ ((cap = 0 ∧ ed = Γ.2.2.1) ∨ cap = 10) := by
  obtain ⟨mod, w, cap, g, a1, a2, a3, a4, a5⟩ := h
  refine ⟨mod, w, cap, g, a1, a2, ?_⟩
  rcases a5 with ⟨-, q, -, q2⟩ | ⟨-, q⟩
  · exact Or.inl ⟨q, q2⟩
  · exact Or.inr q
theorem hKl.kp {a ed n : Nat} {e : Nat → Nat} (h : hKl Γ M M2 a ed) (hl : lsP Γ M a ed n e) {c : Nat} {w : Bool} {e' : va_E} (hc : M c = some (w, e')) (h0 : (kd e').1 ≠ 0) (h12 : (kd e').1 ≠ 12) : M2 c = some (w, e') := by
  obtain ⟨mod, w, cap, g, a1, a2, -⟩ := hl.d
  refine h c _ _ hc (fun q => ?_) (fun q => ?_)
  · rw [q, a1] at hc; cases hc; exact absurd rfl h0
  · rw [q, a2] at hc; cases hc; exact absurd rfl h12
theorem hKl.cls {a ed n : Nat} {e : Nat → Nat} (h : hKl Γ M M2 a ed) (hl : lsP Γ M a ed n e) : hKp noCls M M2 := fun c w e' hc hp => by
  obtain ⟨mod, w2, cap, g, a1, a2, a3⟩ := hl.d
  refine h c _ _ hc (fun q => ?_) (fun q => ?_)
  · rw [q, a1] at hc; cases hc
    exact absurd (noCls_6 hp) (by show ¬ (6 ≤ 0); decide)
  · rcases a3 with ⟨-, q2⟩ | q2
    · exact q2
    · rw [q, a2] at hc; cases hc
      exact absurd ⟨rfl, q2⟩ (noCls_12 hp)
theorem hKl.rck {a ed n : Nat} {e : Nat → Nat} (h : hKl Γ M M2 a ed) (hl : lsP Γ M a ed n e) {r : Nat} {hk : Nat → Nat} {V : Nat → hB} (hR : pRk Γ M r hk V) : pRk Γ M2 r hk V := by
  obtain ⟨⟨hi, arr, f, h1, h2, h3⟩, FS, hF⟩ := hR
  refine ⟨⟨hi, arr, f, h.kp hl h1 (by show (4 : Nat) ≠ 0; decide) (by show (4 : Nat) ≠ 12; decide), ?_, h3⟩, FS, fun i hi => h.kp hl (hF i hi) (by show (2 : Nat) ≠ 0; decide) (by show (2 : Nat) ≠ 12; decide)⟩
  obtain ⟨mod, w, cap, g, a1, a2, a3⟩ := hl.d
  refine h _ _ _ h2 (fun q => ?_) (fun q => ?_)
  · rw [q, a1] at h2; cases h2
  · rw [q, a2] at h2
    have e1 := (Prod.mk.inj (Option.some.inj h2)).2
    have e2 := (Prod.mk.inj (Prod.mk.inj (Sum.inl.inj e1)).2).1
    rcases a3 with ⟨q9, -⟩ | q9 <;> omega
theorem hKl.ls {a ed n : Nat} {e : Nat → Nat} (h : hKl Γ M M2 a ed) (hl : lsP Γ M a ed n e) {a' ed' n' : Nat} {e' : Nat → Nat} (hl' : lsP Γ M a' ed' n' e') (hne : a' ≠ a) (hed : ed' = ed → ed = Γ.2.2.1) : lsP Γ M2 a' ed' n' e' := by
  obtain ⟨mod, w, cap, g, a1, a2, a3⟩ := hl'
  obtain ⟨mod2, w2, cap2, g2, b1, b2, -⟩ := hl.d
  refine ⟨mod, w, cap, g, h _ _ _ a1 hne (fun q => ?_), h _ _ _ a2 (fun q => ?_) hed, a3⟩
  · rw [q, b2] at a1; cases a1
  · rw [q, b1] at a2; cases a2
theorem ltQ.addH (h : ltQ Γ M x S hl ol rk tr edh edo hb ob hk hk2 V V2 g0) (hI : sInv S) {b ed2 : Nat} {e lm : Int32} (eb : M b = none) (hls : lsP Γ M2 hl ed2 (sN S + 1) (fUp hb (sN S) b)) (he : ed2 = edh ∨ hU M b (oHerb (nI (sN S)) e lm) ed2 = none) (ho : hOff (hU M b (oHerb (nI (sN S)) e lm)) M2 (fun q => q = hl ∨ (q = edh ∧ edh ≠ Γ.2.2.1) ∨ hU M b (oHerb (nI (sN S)) e lm) q = none)) : ltP Γ M2 x ((sN S + 1, fUp (sE S) (sN S) e, fUp (sL S) (sN S) lm), S.2) ∧ hKp noCls M M2 := by
  obtain ⟨pL, pT, pH, pO, nHO, nED, pR, pR2, nHK, hRV⟩ := h
  have K := hKl.of (Γ := Γ) eb ho
  have h1 := pH.1
  obtain ⟨mod2, w2, cap2, g2, b1, b2, -⟩ := h1.d
  have hbn : ∀ i, i < sN S → hb i ≠ b := fun i hi q => by have := pH.2.1 i hi; rw [q, eb] at this; cases this
  have hup : ∀ i, i < sN S → fUp hb (sN S) b i = hb i := fun i hi => fUp_n (by omega)
  refine ⟨⟨hl, ol, rk, tr, ed2, edo, fUp hb (sN S) b, ob, hk, hk2, V, V2, g0, K.kp h1 pL (by show (5 : Nat) ≠ 0; decide) (by show (5 : Nat) ≠ 12; decide), ?_, ⟨hls, fun i hi => ?_, fun i j hi hj q => ?_⟩, ⟨K.ls h1 pO.1 (Ne.symm nHO) (fun q => nED q.symm), fun i hi => ?_, pO.2.2⟩, nHO, fun q => ?_, K.rck h1 pR, K.rck h1 pR2, nHK, fun i hi => ⟨?_, (hRV i hi).2⟩⟩, K.cls h1⟩
  · refine K _ _ _ pT (fun q => ?_) (fun q => q.symm)
    rw [q, b1] at pT; cases pT
  · by_cases hin : i = sN S
    · subst hin
      rw [fUp_s]
      show M2 b = some (true, oHerb (nI (sN S)) (fUp (sE S) (sN S) e (sN S)) (fUp (sL S) (sN S) lm (sN S)))
      rw [fUp_s, fUp_s]
      refine (ho b (fun q => ?_)).trans (hU_s _ _ _)
      rcases q with q | ⟨q, -⟩ | q
      · rw [q, b1] at eb; cases eb
      · rw [q, b2] at eb; cases eb
      · rw [hU_s] at q; cases q
    · have hi2 : i < sN S := by have : i < sN S + 1 := hi; omega
      rw [hup i hi2]
      show M2 (hb i) = some (true, oHerb (nI i) (fUp (sE S) (sN S) e i) (fUp (sL S) (sN S) lm i))
      rw [fUp_n hin, fUp_n hin]
      exact K.kp h1 (pH.2.1 i hi2) (by show (1 : Nat) ≠ 0; decide) (by show (1 : Nat) ≠ 12; decide)
  · have hi' : i < sN S + 1 := hi
    have hj' : j < sN S + 1 := hj
    by_cases e1 : i = sN S <;> by_cases e2 : j = sN S
    · omega
    · rw [e1, fUp_s, hup j (by omega)] at q; exact absurd q.symm (hbn j (by omega))
    · rw [e2, fUp_s, hup i (by omega)] at q; exact absurd q (hbn i (by omega))
    · rw [hup i (by omega), hup j (by omega)] at q; exact pH.2.2 i j (by omega) (by omega) q
  · show M2 (ob i) = some (true, oOrder (some (fUp hb (sN S) b (sW S i))) (sM S i) (sD S i) (sG S i))
    rw [hup _ (hI.2.2.2.1 i hi)]
    exact K.kp h1 (pO.2.1 i hi) (by show (3 : Nat) ≠ 0; decide) (by show (3 : Nat) ≠ 12; decide)
  · rcases he with he | he
    · rw [he] at q ⊢; exact nED q
    · obtain ⟨mod3, w3, cap3, g3, d1, d2, -⟩ := pO.1.d
      rw [q] at he
      by_cases e1 : edo = b
      · rw [e1, hU_s] at he; cases he
      · rw [hU_n e1, d2] at he; cases he
  · rw [(hRV i hi).1]
    cases hb1 : (sB S i).1 with
    | none => rfl
    | some j => show some (hb j) = some (fUp hb (sN S) b j); rw [hup j (hI.lt i hi j hb1)]
theorem ltQ.addO (h : ltQ Γ M x S hl ol rk tr edh edo hb ob hk hk2 V V2 g0) {b ed2 j : Nat} {m w : Int32} (eb : M b = none) (hls : lsP Γ M2 ol ed2 (sO S + 1) (fUp ob (sO S) b)) (he : ed2 = edo ∨ hU M b (oOrder (some (hb j)) m w 0) ed2 = none) (ho : hOff (hU M b (oOrder (some (hb j)) m w 0)) M2 (fun q => q = ol ∨ (q = edo ∧ edo ≠ Γ.2.2.1) ∨ hU M b (oOrder (some (hb j)) m w 0) q = none)) : ltP Γ M2 x (S.1, (sO S + 1, fUp (sW S) (sO S) j, fUp (sM S) (sO S) m, fUp (sD S) (sO S) w, fUp (sG S) (sO S) 0), S.2.2) ∧ hKp noCls M M2 := by
  obtain ⟨pL, pT, pH, pO, nHO, nED, pR, pR2, nHK, hRV⟩ := h
  have K := hKl.of (Γ := Γ) eb ho
  have h1 := pO.1
  obtain ⟨mod2, w2, cap2, g2, b1, b2, -⟩ := h1.d
  have hbn : ∀ i, i < sO S → ob i ≠ b := fun i hi q => by have := pO.2.1 i hi; rw [q, eb] at this; cases this
  have hup : ∀ i, i < sO S → fUp ob (sO S) b i = ob i := fun i hi => fUp_n (by omega)
  refine ⟨⟨hl, ol, rk, tr, edh, ed2, hb, fUp ob (sO S) b, hk, hk2, V, V2, g0, K.kp h1 pL (by show (5 : Nat) ≠ 0; decide) (by show (5 : Nat) ≠ 12; decide), ?_, ⟨K.ls h1 pH.1 nHO (fun q => q.symm.trans (nED q)), fun i hi => K.kp h1 (pH.2.1 i hi) (by show (1 : Nat) ≠ 0; decide) (by show (1 : Nat) ≠ 12; decide), pH.2.2⟩, ⟨hls, fun i hi => ?_, fun i k hi hk q => ?_⟩, nHO, fun q => ?_, K.rck h1 pR, K.rck h1 pR2, nHK, hRV⟩, K.cls h1⟩
  · refine K _ _ _ pT (fun q => ?_) (fun q => q.symm)
    rw [q, b1] at pT; cases pT
  · by_cases hin : i = sO S
    · subst hin
      rw [fUp_s]
      show M2 b = some (true, oOrder (some (hb (fUp (sW S) (sO S) j (sO S)))) (fUp (sM S) (sO S) m (sO S)) (fUp (sD S) (sO S) w (sO S)) (fUp (sG S) (sO S) 0 (sO S)))
      rw [fUp_s, fUp_s, fUp_s, fUp_s]
      refine (ho b (fun q => ?_)).trans (hU_s _ _ _)
      rcases q with q | ⟨q, -⟩ | q
      · rw [q, b1] at eb; cases eb
      · rw [q, b2] at eb; cases eb
      · rw [hU_s] at q; cases q
    · have hi2 : i < sO S := by have : i < sO S + 1 := hi; omega
      rw [hup i hi2]
      show M2 (ob i) = some (true, oOrder (some (hb (fUp (sW S) (sO S) j i))) (fUp (sM S) (sO S) m i) (fUp (sD S) (sO S) w i) (fUp (sG S) (sO S) 0 i))
      rw [fUp_n hin, fUp_n hin, fUp_n hin, fUp_n hin]
      exact K.kp h1 (pO.2.1 i hi2) (by show (3 : Nat) ≠ 0; decide) (by show (3 : Nat) ≠ 12; decide)
  · have hi' : i < sO S + 1 := hi
    have hk' : k < sO S + 1 := hk
    by_cases e1 : i = sO S <;> by_cases e2 : k = sO S
    · omega
    · rw [e1, fUp_s, hup k (by omega)] at q; exact absurd q.symm (hbn k (by omega))
    · rw [e2, fUp_s, hup i (by omega)] at q; exact absurd q (hbn i (by omega))
    · rw [hup i (by omega), hup k (by omega)] at q; exact pO.2.2 i k (by omega) (by omega) q
  · rcases he with he | he
    · rw [he] at q; exact nED q
    · obtain ⟨mod3, w3, cap3, g3, d1, d2, -⟩ := pH.1.d
      rw [← q] at he
      by_cases e1 : edh = b
      · rw [e1, hU_s] at he; cases he
      · rw [hU_n e1, d2] at he; cases he
def noHO : kK → Bool := fun n => !(n.1 == 2) && !(n.1 == 3)
theorem noCls_noHO : ∀ n, noCls n = true → noHO n = true := fun n h => by
  have := noCls_6 h
  simp only [noHO, Bool.and_eq_true, Bool.not_eq_true', beq_eq_false_iff_ne]
  omega
/-- an order got what it could -/
theorem ltQ.give (h : ltQ Γ M x S hl ol rk tr edh edo hb ob hk hk2 V V2 g0) {FS : Nat → Int32 × Bool} {V1 B1 : Nat → hB} {i : Nat} {g : Int32} (hi : i < sO S) (hF : hkF M hk V FS) (hF1 : hkF M2 hk V1 FS) (hO : M2 (ob i) = some (true, oOrder (some (hb (sW S i))) (sM S i) (sD S i) g)) (ho : hOff M M2 (fun a => onHk hk a ∨ a = ob i)) (hR : RelV hb V1 B1) : ltQ Γ M2 x (S.1, (sO S, sW S, sM S, sD S, fUp (sG S) i g), B1, S.2.2.2) hl ol rk tr edh edo hb ob hk hk2 V1 V2 g0 ∧ hKp noCls M M2 := by
  obtain ⟨pL, pT, pH, pO, nHO, nED, pR, pR2, nHK, hRV⟩ := h
  have hk1 : hKp noHO M M2 := fun a w e ha hp => by
    refine (ho a (fun q => ?_)).trans ha
    rcases q with q | q
    · exact hF.notOn ha (fun fs q2 => by rw [q2] at hp; cases hp) q
    · rw [q, pO.2.1 i hi] at ha; cases ha; cases hp
  refine ⟨⟨hk1 _ _ _ pL rfl, hk1 _ _ _ pT rfl, pH.kp hk1 rfl rfl ⟨rfl, rfl⟩, ⟨pO.1.kp hk1 rfl ⟨rfl, rfl⟩, fun k hkk => ?_, pO.2.2⟩, nHO, nED, ⟨pR.1.kp hk1 rfl rfl, FS, hF1⟩, ?_, nHK, hR⟩, hk1.wk noCls_noHO⟩
  · by_cases e1 : k = i
    · subst e1
      show M2 (ob k) = some (true, oOrder (some (hb (sW S k))) (sM S k) (sD S k) (fUp (sG S) k g k))
      rw [fUp_s]; exact hO
    · show M2 (ob k) = some (true, oOrder (some (hb (sW S k))) (sM S k) (sD S k) (fUp (sG S) i g k))
      rw [fUp_n e1]
      refine (ho _ (fun q => ?_)).trans (pO.2.1 k hkk)
      rcases q with q | q
      · exact hF.notOn (pO.2.1 k hkk) (fun fs q2 => by cases q2) q
      · exact e1 (pO.2.2 k i hkk hi q)
  · obtain ⟨h2, FS2, hF2⟩ := pR2
    refine ⟨h2.kp hk1 rfl rfl, FS2, fun k hkk => (ho _ (fun q => ?_)).trans (hF2 k hkk)⟩
    rcases q with ⟨m, hm, q⟩ | q
    · exact nHK m k hm hkk q.symm
    · have := hF2 k hkk; rw [q, pO.2.1 i hi] at this; cases this
end hPic2
theorem inR_nIt {w N : Nat} (h : w ≤ N) (hN : N < 2 ^ 31) : inR 0 (nI N) (nI w) = true := by
  unfold inR
  rw [decide_eq_true (nI_pos' (n := w) (by omega)), decide_eq_true (nI_le h hN)]; rfl
theorem sCount_ok {S : hS} {w : Nat} (hw : w < 9) : sCount S (nI w) = (0, cnI S (nI w)) := by
  have : inR 0 8 (nI w) = true := inR_nIt (N := 8) (by omega) (by decide)
  simp [sCount, this]
theorem isH_ok {S : hS} {h : Nat} (hn : sN S ≤ 6) (hh : h < sN S) : isH S (nI h) = true := by
  rw [nI_isH hn (by omega)]; exact decide_eq_true hh
theorem sAbout_ok {S : hS} {h w : Nat} (hn : sN S ≤ 6) (hh : h < sN S) (hw : w < 5) : sAbout S (nI h) (nI w) = (0, abI S h (nI w)) := by
  have h1 : inR 0 4 (nI w) = true := inR_nIt (N := 4) (by omega) (by decide)
  have h2 := isH_ok hn hh
  simp [sAbout, h1, h2, show hNo (nI h) = h from nI_clamp (by omega)]
theorem sAsked_ok {S : hS} {o w : Nat} (hn : sO S ≤ 6) (hh : o < sO S) (hw : w < 5) : sAsked S (nI o) (nI w) = (0, asI S o (nI w)) := by
  have h1 : inR 0 4 (nI w) = true := inR_nIt (N := 4) (by omega) (by decide)
  have h2 : (0 : Int32) ≤ nI o := nI_pos' (by omega)
  have h3 : nI o < nI (sO S) := nI_lt hh (by omega)
  simp [sAsked, h1, h2, h3, show hNo (nI o) = o from nI_clamp (by omega)]
theorem sTold_ok {S : hS} {s h w : Nat} (hs : s < 5) (hh : h < 8) (hw : w < 6) : sTold S (nI s) (nI h) (nI w) = (0, tellI (sB S) (s * 8 + h) (nI w)) := by
  have h1 : inR 0 7 (nI w) = true := inR_nIt (N := 7) (by omega) (by decide)
  have h2 : isHk (nI s) (nI h) = true := by
    unfold isHk
    rw [show inStr (nI s) = true from inR_nIt (N := 4) (by omega) (by decide), show inHok (nI h) = true from inR_nIt (N := 7) (by omega) (by decide)]; rfl
  simp [sTold, h1, h2, ixOf_nI (show s ≤ 4 by omega) (show h ≤ 7 by omega)]
theorem nI_gt_eq {j N : Nat} (hj : j ≤ N + 1) (hN : N + 1 < 2 ^ 31) (h : nI N < nI j) : j = N + 1 := by
  have := (nI_ltI (a := N) (b := j) (by omega) (by omega)).mp h
  omega
theorem nI_ngt_lt {j N : Nat} (hj : j ≤ N + 1) (hN : N + 1 < 2 ^ 31) (h : ¬ nI N < nI j) : j < N + 1 := by
  rcases Nat.lt_or_ge j (N + 1) with q | q
  · exact q
  · exact absurd (nI_lt (show N < j by omega) (by omega)) h
theorem hIt_0 {α : Type} (f : Nat → α → α) (a : α) : hIt f a 0 = a := rfl
theorem flR_s {W : Nat → Option Nat} {Mn Dr G G3 : Nat → Int32} {B B3 : Nat → hB} {gi : Int32} {i : Nat} (h : (B3, G3, gi) = flR W Mn Dr G B i) : flR W Mn Dr G B (i + 1) = ((gvR (W i) (Mn i) (Dr i) (G3 i) B3 40).1, fUp G3 i (gvR (W i) (Mn i) (Dr i) (G3 i) B3 40).2.1, gi + (gvR (W i) (Mn i) (Dr i) (G3 i) B3 40).2.2) := by
  have e : flR W Mn Dr G B (i + 1) = flS W Mn Dr i (flR W Mn Dr G B i) := hIt_s _ _ _
  rw [e, ← h]
  unfold flS
  rfl
theorem flR_0 {W : Nat → Option Nat} {Mn Dr G : Nat → Int32} {B : Nat → hB} : (B, G, (0 : Int32)) = flR W Mn Dr G B 0 := (hIt_0 _ _).symm
