/-! ===== steps of the reference's picture ===== -/
def hKm (M M1 : hM) : Prop := ∀ (a : Nat) (w : Bool) (e : va_E), M a = some (w, e) → (w = false ∨ (kd e ≠ 6 ∧ kd e ≠ 7 ∧ kd e ≠ 10)) → M1 a = some (w, e)
theorem hKm.rf {M : hM} : hKm M M := fun _ _ _ h _ => h
theorem hKm.tr {M M1 M2 : hM} (h : hKm M M1) (h2 : hKm M1 M2) : hKm M M2 := fun a w e ha hp => h2 a w e (h a w e ha hp) hp
theorem hKm.put {M M1 : hM} (h : hKm M M1) {a : Nat} {e0 e : va_E} (ha : M1 a = some (true, e0)) (hp : kd e0 = 6 ∨ kd e0 = 7 ∨ kd e0 = 10) : hKm M (hU M1 a e) := fun b w e' hb hp' => by
  have h1 := h b w e' hb hp'
  by_cases hba : b = a
  · subst hba
    rw [ha] at h1
    obtain ⟨rfl, rfl⟩ := Prod.mk.inj (Option.some.inj h1)
    rcases hp' with q | ⟨q1, q2, q3⟩
    · cases q
    · rcases hp with q | q | q
      · exact absurd q q1
      · exact absurd q q2
      · exact absurd q q3
  · rw [hU_n hba]; exact h1
/-- what is off those addresses is kept, and at them stand a model's own things -/
theorem hKm.off {M M1 : hM} {D : Nat → Prop} (ho : hOff M M1 D) (hD : ∀ a, D a → ∃ e0, M a = some (true, e0) ∧ (kd e0 = 6 ∨ kd e0 = 7 ∨ kd e0 = 10)) : hKm M M1 := fun a w e ha hp => by
  refine (ho a (fun q => ?_)).trans ha
  obtain ⟨e0, h1, h2⟩ := hD a q
  rw [ha] at h1
  obtain ⟨rfl, rfl⟩ := Prod.mk.inj (Option.some.inj h1)
  rcases hp with q | ⟨q1, q2, q3⟩
  · cases q
  · rcases h2 with q | q | q
    · exact absurd q q1
    · exact absurd q q2
    · exact absurd q q3
section hMd
variable {Γ : hGam} {M M1 : hM} {m : Nat} {th : Int32} {S : hS} {s ah od : Nat} {ad : Nat → Nat} {G : Nat → Nat → Int32} {d1 d2 : Int32}
theorem mdQ.P (h : mdQ Γ M m th S s ah od ad G d1 d2) : mdP Γ M m th S := ⟨s, ah, od, ad, G, d1, d2, h⟩
theorem kdI (Γ : hGam) (n : Nat) (f : Nat → Int32) : kd (aI Γ n f) = 10 := rfl
/-- the model's own cell was changed -/
theorem mdQ.own (h : mdQ Γ M m th S s ah od ad G d1 d2) (c : Int32) : mdQ Γ (hU M m (oModel c (sWin S) (nI (sN S)) (some (ad 15)) (some (ad 16)) (nI (sO S)) (some (ad 17)) (some (ad 18)) (some (ad 19)) (some (ad 20)) (givn S) (some s) (some ah) (some od))) m c S s ah od ad G d1 d2 ∧ hKm M (hU M m (oModel c (sWin S) (nI (sN S)) (some (ad 15)) (some (ad 16)) (nI (sO S)) (some (ad 17)) (some (ad 18)) (some (ad 19)) (some (ad 20)) (givn S) (some s) (some ah) (some od))) := by
  obtain ⟨mM, mA, mS, mAh, mOd, mNe, mH, mO, mV⟩ := h
  have n1 : s ≠ m := fun q => by rw [q, mM] at mS; cases mS
  have n2 : ah ≠ m := fun q => by rw [q, mM] at mAh; cases mAh
  have n3 : od ≠ m := fun q => by rw [q, mM] at mOd; cases mOd
  exact ⟨⟨hU_s _ _ _, mA.cell mM _, (hU_n n1).trans mS, (hU_n n2).trans mAh, (hU_n n3).trans mOd, mNe, mH, mO, mV⟩, hKm.rf.put mM (Or.inr (Or.inl rfl))⟩
/-- all is as it was but rows -/
theorem mdQ.rows (h : mdQ Γ M m th S s ah od ad G d1 d2) {G1 : Nat → Nat → Int32} {S1 : hS} {th1 : Int32} {e1 e2 : Int32} (hA : mdA Γ M1 ad G1) (hM1 : M1 m = some (true, oModel th1 (sWin S1) (nI (sN S1)) (some (ad 15)) (some (ad 16)) (nI (sO S1)) (some (ad 17)) (some (ad 18)) (some (ad 19)) (some (ad 20)) (givn S1) (some s) (some ah) (some od))) (hs : M1 s = some (true, oSt ad 0 (sDay S1))) (hah : M1 ah = some (true, oSt ad 5 e1)) (hod : M1 od = some (true, oSt ad 10 e2)) (hH : ∀ i, i < sN S1 → G1 15 i = sE S1 i ∧ G1 16 i = sL S1 i) (hO : (∀ i, i < sO S1 → G1 17 i = nI (sW S1 i) ∧ G1 18 i = sM S1 i ∧ G1 19 i = sD S1 i ∧ G1 20 i = sG S1 i) ∧ ∀ i, sO S1 ≤ i → G1 20 i = 0) (hV : stV G1 0 (sB S1)) : mdP Γ M1 m th1 S1 :=
  ⟨s, ah, od, ad, G1, e1, e2, hM1, hA, hs, hah, hod, h.2.2.2.2.2.1, hH, hO, hV⟩
/-- one int of a row was put; what else is there stays -/
theorem mdA.sti (h : mdA Γ M ad G) {c k : Nat} (hc : c < 15) (v : Int32) : ∃ G1, mdA Γ (hU M (ad c) (aI Γ 40 (upd (G c) k v))) ad G1 ∧ (∀ (y : Nat) (w : Bool) (r : Nat × List Value), M y = some (w, .inr r) → hU M (ad c) (aI Γ 40 (upd (G c) k v)) y = some (w, .inr r)) ∧ (∀ D : Nat → Prop, ∀ M0, hOff M0 M D → D (ad c) → hOff M0 (hU M (ad c) (aI Γ 40 (upd (G c) k v))) D) ∧ hKm M (hU M (ad c) (aI Γ 40 (upd (G c) k v))) ∧ ∀ c' i, G1 c' i = if c' = c ∧ i = k then v else G c' i := by
  refine ⟨_, h.st hc _, fun _ _ _ hy => (hU_n (h.ne (by omega) hy)).trans hy, fun D M0 ho hd => ho.put hd, hKm.rf.put (h.at0 hc) (Or.inr (Or.inr rfl)), fun c' i => ?_⟩
  by_cases e : c' = c
  · subst e
    rw [fUp_s]
    by_cases e2 : i = k
    · subst e2; rw [upd_s, if_pos ⟨rfl, rfl⟩]
    · rw [upd_n e2, if_neg (fun q => e2 q.2)]
  · rw [fUp_n e, if_neg (fun q => e q.1)]
theorem mdA.sti6 (h : mdA Γ M ad G) {c k : Nat} (hc : 15 ≤ c) (h21 : c < 21) (v : Int32) : ∃ G1, mdA Γ (hU M (ad c) (aI Γ 6 (upd (G c) k v))) ad G1 ∧ (∀ (y : Nat) (w : Bool) (r : Nat × List Value), M y = some (w, .inr r) → hU M (ad c) (aI Γ 6 (upd (G c) k v)) y = some (w, .inr r)) ∧ (∀ D : Nat → Prop, ∀ M0, hOff M0 M D → D (ad c) → hOff M0 (hU M (ad c) (aI Γ 6 (upd (G c) k v))) D) ∧ hKm M (hU M (ad c) (aI Γ 6 (upd (G c) k v))) ∧ ∀ c' i, G1 c' i = if c' = c ∧ i = k then v else G c' i := by
  refine ⟨_, h.st6 hc h21 _, fun _ _ _ hy => (hU_n (h.ne h21 hy)).trans hy, fun D M0 ho hd => ho.put hd, hKm.rf.put (h.at6 hc h21) (Or.inr (Or.inr rfl)), fun c' i => ?_⟩
  by_cases e : c' = c
  · subst e
    rw [fUp_s]
    by_cases e2 : i = k
    · subst e2; rw [upd_s, if_pos ⟨rfl, rfl⟩]
    · rw [upd_n e2, if_neg (fun q => e2 q.2)]
  · rw [fUp_n e, if_neg (fun q => e q.1)]
/-- the bundles were changed -/
theorem mdQ.bun (h : mdQ Γ M m th S s ah od ad G d1 d2) {G1 : Nat → Nat → Int32} {B1 : Nat → hB} (hA : mdA Γ M1 ad G1) (keep : ∀ (y : Nat) (w : Bool) (r : Nat × List Value), M y = some (w, .inr r) → M1 y = some (w, .inr r)) (hR : ∀ c i, 15 ≤ c → G1 c i = G c i) (hV : stV G1 0 B1) : mdP Γ M1 m th (setB S B1) := by
  have hc := h
  obtain ⟨mM, mA, mS, mAh, mOd, mNe, mH, mO, mV⟩ := hc
  refine h.rows (S1 := setB S B1) hA (keep _ _ _ mM) (keep _ _ _ mS) (keep _ _ _ mAh) (keep _ _ _ mOd) (fun i hi => ?_) ⟨fun i hi => ?_, fun i hi => ?_⟩ hV
  · rw [hR _ _ (by decide), hR _ _ (by decide)]; exact mH i hi
  · rw [hR _ _ (by decide), hR _ _ (by decide), hR _ _ (by decide), hR _ _ (by decide)]; exact mO.1 i hi
  · rw [hR _ _ (by decide)]; exact mO.2 i hi
/-- the model's own cell was changed, and what it says with it; the rows are as they were -/
theorem mdQ.own2 (h : mdQ Γ M m th S s ah od ad G d1 d2) (c : Int32) (S1 : hS) (hD : sDay S1 = sDay S) (hH : ∀ i, i < sN S1 → G 15 i = sE S1 i ∧ G 16 i = sL S1 i) (hO : (∀ i, i < sO S1 → G 17 i = nI (sW S1 i) ∧ G 18 i = sM S1 i ∧ G 19 i = sD S1 i ∧ G 20 i = sG S1 i) ∧ ∀ i, sO S1 ≤ i → G 20 i = 0) (hV : stV G 0 (sB S1)) : mdP Γ (hU M m (oModel c (sWin S1) (nI (sN S1)) (some (ad 15)) (some (ad 16)) (nI (sO S1)) (some (ad 17)) (some (ad 18)) (some (ad 19)) (some (ad 20)) (givn S1) (some s) (some ah) (some od))) m c S1 ∧ hKm M (hU M m (oModel c (sWin S1) (nI (sN S1)) (some (ad 15)) (some (ad 16)) (nI (sO S1)) (some (ad 17)) (some (ad 18)) (some (ad 19)) (some (ad 20)) (givn S1) (some s) (some ah) (some od))) := by
  obtain ⟨mM, mA, mS, mAh, mOd, mNe, mH, mO, mV⟩ := h
  have n1 : s ≠ m := fun q => by rw [q, mM] at mS; cases mS
  have n2 : ah ≠ m := fun q => by rw [q, mM] at mAh; cases mAh
  have n3 : od ≠ m := fun q => by rw [q, mM] at mOd; cases mOd
  exact ⟨⟨s, ah, od, ad, G, d1, d2, hU_s _ _ _, mA.cell mM _, by rw [hU_n n1, hD]; exact mS, (hU_n n2).trans mAh, (hU_n n3).trans mOd, mNe, hH, hO, hV⟩, hKm.rf.put mM (Or.inr (Or.inl rfl))⟩
end hMd
theorem stV.clr {G G1 : Nat → Nat → Int32} {B : Nat → hB} {k : Nat} (h : stV G 0 B) (hG : ∀ c i, G1 c i = if c = 0 ∧ i = k then -1 else G c i) : stV G1 0 (fUp B k emp) := fun i hi => by
  by_cases e : i = k
  · subst e
    rw [fUp_s, hG, if_pos ⟨rfl, rfl⟩]
    exact ⟨rfl, fun q => absurd rfl q⟩
  · rw [fUp_n e, hG, if_neg (fun q => e q.2), hG, if_neg (fun q => e q.2), hG, if_neg (fun q => e q.2), hG, if_neg (fun q => e q.2), hG, if_neg (fun q => e q.2)]
    exact h i hi
theorem stV.set {G G1 : Nat → Nat → Int32} {B : Nat → hB} {k : Nat} {b : hB} (h : stV G 0 B) (h0 : ∀ c i, i ≠ k → c < 5 → G1 c i = G c i) (h1 : G1 0 k = enc b.1) (h2 : (G1 1 k, G1 2 k, G1 3 k, G1 4 k) = b.2) : stV G1 0 (fUp B k b) := fun i hi => by
  by_cases e : i = k
  · subst e
    rw [fUp_s]
    exact ⟨h1, fun _ => h2⟩
  · rw [fUp_n e, h0 _ _ e (by decide), h0 _ _ e (by decide), h0 _ _ e (by decide), h0 _ _ e (by decide), h0 _ _ e (by decide)]
    exact h i hi
theorem stV.lay {G G1 : Nat → Nat → Int32} {B : Nat → hB} {f t : Nat} (h : stV G 0 B) (hf : f < 40) (ht : t < 40) (hft : f ≠ t) (hG : ∀ i, i < 40 → rG G1 0 i = laR (rG G 0) f t i) : stV G1 0 (fUp (fUp B t (B f)) f emp) := fun i hi => by
  have e := hG i hi
  unfold laR at e
  by_cases e1 : i = f
  · subst e1
    rw [if_pos rfl] at e
    rw [fUp_s]
    exact ⟨congrArg (fun z => z.1) e, fun q => absurd rfl q⟩
  · rw [if_neg e1] at e
    rw [fUp_n e1]
    by_cases e2 : i = t
    · subst e2
      rw [if_pos rfl] at e
      rw [fUp_s]
      refine ⟨(congrArg (fun z => z.1) e).trans (h f hf).1, fun q => ?_⟩
      exact (congrArg (fun z => z.2) e).trans ((h f hf).2 q)
    · rw [if_neg e2] at e
      rw [fUp_n e2]
      exact ⟨(congrArg (fun z => z.1) e).trans (h i hi).1, fun q => (congrArg (fun z => z.2) e).trans ((h i hi).2 q)⟩
theorem stV.turn {G G1 : Nat → Nat → Int32} {B : Nat → hB} {s : Nat} (h : stV G 0 B) (hG : ∀ i, i < 40 → rG G1 0 i = if i / 8 = s then rSwp (rG G 0 i) else rG G 0 i) : stV G1 0 (vTurn s B) := fun i hi => by
  have e := hG i hi
  refine ⟨?_, fun q => ?_⟩
  · rw [vTurn_1, ← (h i hi).1]
    have := congrArg (fun z => z.1) e
    refine this.trans ?_
    split
    · rfl
    · rfl
  · rw [vTurn_1] at q
    have e2 := (h i hi).2 q
    have ht : (B i).1.isSome = true := by
      cases hb : (B i).1 with
      | none => exact absurd hb q
      | some j => rfl
    unfold vTurn
    by_cases e1 : i / 8 = s
    · rw [if_pos e1] at e
      rw [if_pos ⟨e1, ht⟩]
      refine (congrArg (fun z => z.2) e).trans ?_
      show (G 2 i, G 1 i, G 3 i, G 4 i) = ((B i).2.2.1, (B i).2.1, (B i).2.2.2)
      rw [← e2]
    · rw [if_neg e1] at e
      rw [if_neg (fun z => e1 z.1)]
      exact (congrArg (fun z => z.2) e).trans e2
theorem ix_md {a b : Nat} : 8 * nI a + nI b = nI (a * 8 + b) := by
  rw [show (8 : Int32) = nI 8 from rfl, pk_mul, nI_add, Nat.mul_comm 8 a]
def fT8 (B : Nat → hB) (s : Nat) : Nat → Int32 → Int32 := fun h c => if bTak (B (s * 8 + h)) = true then c + 1 else c
theorem tr_lo (B : Nat → hB) (s : Nat) : ∀ n, n ≤ s * 8 → hIt (fTurn s B) 0 n = 0
  | 0, _ => rfl
  | n + 1, h => by
    rw [hIt_s, tr_lo B s n (by omega)]
    exact if_neg (fun q => by omega)
theorem tr_mi (B : Nat → hB) (s : Nat) : ∀ h, h ≤ 8 → hIt (fTurn s B) 0 (s * 8 + h) = hIt (fT8 B s) 0 h
  | 0, _ => tr_lo B s _ (by omega)
  | h + 1, hh => by
    rw [show s * 8 + (h + 1) = s * 8 + h + 1 by omega, hIt_s, hIt_s, tr_mi B s h (by omega)]
    show (if (s * 8 + h) / 8 = s ∧ (B (s * 8 + h)).1.isSome = true then _ else _) = if (B (s * 8 + h)).1.isSome = true then _ else _
    exact ifc9 ⟨fun q => q.2, fun q => ⟨by omega, q⟩⟩
theorem tr_hi (B : Nat → hB) (s : Nat) : ∀ n, hIt (fTurn s B) 0 (s * 8 + 8 + n) = hIt (fT8 B s) 0 8
  | 0 => tr_mi B s 8 (by omega)
  | n + 1 => by
    rw [show s * 8 + 8 + (n + 1) = s * 8 + 8 + n + 1 by omega, hIt_s, tr_hi B s n]
    exact if_neg (fun q => by omega)
theorem tr_40 (B : Nat → hB) {s : Nat} (h : s < 5) : hIt (fTurn s B) 0 40 = hIt (fT8 B s) 0 8 := by
  have := tr_hi B s (32 - s * 8)
  rw [show s * 8 + 8 + (32 - s * 8) = 40 by omega] at this
  exact this
theorem flat8 {α : Type} (F : Nat → α → α) (a : α) : ∀ n, hIt (fun s d => hIt (fun h d => F (s * 8 + h) d) d 8) a n = hIt F a (n * 8)
  | 0 => by rw [Nat.zero_mul]; rfl
  | n + 1 => by
    rw [hIt_s, flat8 F a n]
    have key : ∀ h, hIt (fun h d => F (n * 8 + h) d) (hIt F a (n * 8)) h = hIt F a (n * 8 + h) := fun h => by
      induction h with
      | zero => rfl
      | succ h ih => rw [hIt_s, ih, show n * 8 + (h + 1) = n * 8 + h + 1 by omega, hIt_s]
    rw [key 8, Nat.succ_mul]
theorem mdA.km {Γ : hGam} {M M1 : hM} {ad : Nat → Nat} {G : Nat → Nat → Int32} (h : mdA Γ M ad G) (ho : hOff M M1 (onAd ad)) : hKm M M1 := hKm.off ho (fun a hd => by
  obtain ⟨c, hc, q⟩ := hd
  exact ⟨aI Γ (adL c) (G c), by rw [q]; exact h.2 c hc, Or.inr (Or.inr rfl)⟩)
theorem mdA.kc {Γ : hGam} {M M1 : hM} {ad : Nat → Nat} {G : Nat → Nat → Int32} (h : mdA Γ M ad G) (ho : hOff M M1 (onAd ad)) : ∀ (y : Nat) (w : Bool) (r : Nat × List Value), M y = some (w, .inr r) → M1 y = some (w, .inr r) := fun y w r hy => (ho y (fun hd => by
  obtain ⟨c, hc, q⟩ := hd
  exact h.ne hc hy q)).trans hy
theorem givn_o {S : hS} (h : Int32) (m w : Int32) (k : Nat) : givn (S.1, (sO S + 1, fUp (sW S) (sO S) k, fUp (sM S) (sO S) m, fUp (sD S) (sO S) w, fUp (sG S) (sO S) 0), S.2.2) = givn S := by
  show hIt (fun i s => s + fUp (sG S) (sO S) 0 i) 0 (sO S + 1) = hIt (fun i s => s + sG S i) 0 (sO S)
  rw [hIt_s]
  show hIt (fun i s => s + fUp (sG S) (sO S) 0 i) 0 (sO S) + fUp (sG S) (sO S) 0 (sO S) = _
  rw [fUp_s, hIt_cg (g := fun i s => s + sG S i) (fun i hi s => by show s + fUp (sG S) (sO S) 0 i = s + sG S i; rw [fUp_n (by omega)]), Int32.add_zero]
theorem sub1 (n : Nat) : nI (n + 1) - 1 = nI n := by
  rw [← nI_1 n, Int32.add_sub_cancel]
theorem tr_8 (B : Nat → hB) (s : Nat) : hIt (fT8 (vTurn s B) s) 0 8 = hIt (fT8 B s) 0 8 := hIt_cg fun i _ c => by
  show (if (vTurn s B (s * 8 + i)).1.isSome = true then c + 1 else c) = if (B (s * 8 + i)).1.isSome = true then c + 1 else c
  rw [vTurn_1]
