/-! ===== steps of the reference's picture ===== -/
def hKm (M M1 : hM) : Prop := ∀ (a : Nat) (w : Bool) (e : va_E), M a = some (w, e) → (w = false ∨ (kd e ≠ 6 ∧ kd e ≠ 7 ∧ kd e ≠ 10)) → M1 a = some (w, e)
theorem hKm.rf {M : hM} : hKm M M := fun _ _ _ h _ => h
theorem hKm.tr {M M1 M2 : hM} (h : hKm M M1) (h2 : hKm M1 M2) : hKm M M2 := fun a w e ha hp => h2 a w e (h a w e ha hp) hp
theorem hKm.put {M M1 : hM} (h : hKm M M1) {a : Nat} {e0 e : va_E} (ha : M1 a = some (true, e0)) (hp : kd e0 = 6 ∨ kd e0 = 7 ∨ kd e0 = 10) : hKm M (hU M1 a e) := fun b w e' hb hp' => by
  have h1 := h b w e' hb hp'
  by_cases hba : b = a
  · subst hba
    rw [ha] at h1
    obtain ⟨rfl, rfl⟩ := Prod.mk.inj (Option.some.inj h1)
    rcases hp' with q | ⟨q1, q2, q3⟩
    · cases q
    · rcases hp with q | q | q
      · exact absurd q q1
      · exact absurd q q2
      · exact absurd q q3
  · rw [hU_n hba]; exact h1
/-- what is off those addresses is kept, and at them stand a model's own things -/
theorem hKm.off {M M1 : hM} {D : Nat → Prop} (ho : hOff M M1 D) (hD : ∀ a, D a → ∃ e0, M a = some (true, e0) ∧ (kd e0 = 6 ∨ kd e0 = 7 ∨ kd e0 = 10)) : hKm M M1 := fun a w e ha hp => by
  refine (ho a (fun q => ?_)).trans ha
  obtain ⟨e0, h1, h2⟩ := hD a q
  rw [ha] at h1
  obtain ⟨rfl, rfl⟩ := Prod.mk.inj (Option.some.inj h1)
  rcases hp with q | ⟨q1, q2, q3⟩
  · cases q
  · rcases h2 with q | q | q
    · exact absurd q q1
    · exact absurd q q2
    · exact absurd q q3
section hMd
variable {Γ : hGam} {M M1 : hM} {m : Nat} {th : Int32} {S : hS} {s ah od : Nat} {ad : Nat → Nat} {G : Nat → Nat → Int32} {d1 d2 : Int32}
theorem mdQ.P (h : mdQ Γ M m th S s ah od ad G d1 d2) : mdP Γ M m th S := ⟨s, ah, od, ad, G, d1, d2, h⟩
theorem kdI (Γ : hGam) (n : Nat) (f : Nat → Int32) : kd (aI Γ n f) = 10 := rfl
/-- the model's own cell was changed -/
theorem mdQ.own (h : mdQ Γ M m th S s ah od ad G d1 d2) (c : Int32) : mdQ Γ (hU M m (oModel c (sWin S) (nI (sN S)) (some (ad 15)) (some (ad 16)) (nI (sO S)) (some (ad 17)) (some (ad 18)) (some (ad 19)) (some (ad 20)) (givn S) (some s) (some ah) (some od))) m c S s ah od ad G d1 d2 ∧ hKm M (hU M m (oModel c (sWin S) (nI (sN S)) (some (ad 15)) (some (ad 16)) (nI (sO S)) (some (ad 17)) (some (ad 18)) (some (ad 19)) (some (ad 20)) (givn S) (some s) (some ah) (some od))) := by
  obtain ⟨mM, mA, mS, mAh, mOd, mNe, mH, mO, mV⟩ := h
  have n1 : s ≠ m := fun q => by rw [q, mM] at mS; cases mS
  have n2 : ah ≠ m := fun q => by rw [q, mM] at mAh; cases mAh
  have n3 : od ≠ m := fun q => by rw [q, mM] at mOd; cases mOd
  exact ⟨⟨hU_s _ _ _, mA.cell mM _, (hU_n n1).trans mS, (hU_n n2).trans mAh, (hU_n n3).trans mOd, mNe, mH, mO, mV⟩, hKm.rf.put mM (Or.inr (Or.inl rfl))⟩
/-- all is as it was but rows -/
theorem mdQ.rows (h : mdQ Γ M m th S s ah od ad G d1 d2) {G1 : Nat → Nat → Int32} {S1 : hS} {th1 : Int32} {e1 e2 : Int32} (hA : mdA Γ M1 ad G1) (hM1 : M1 m = some (true, oModel th1 (sWin S1) (nI (sN S1)) (some (ad 15)) (some (ad 16)) (nI (sO S1)) (some (ad 17)) (some (ad 18)) (some (ad 19)) (some (ad 20)) (givn S1) (some s) (some ah) (some od))) (hs : M1 s = some (true, oSt ad 0 (sDay S1))) (hah : M1 ah = some (true, oSt ad 5 e1)) (hod : M1 od = some (true, oSt ad 10 e2)) (hH : ∀ i, i < sN S1 → G1 15 i = sE S1 i ∧ G1 16 i = sL S1 i) (hO : ∀ i, i < sO S1 → G1 17 i = nI (sW S1 i) ∧ G1 18 i = sM S1 i ∧ G1 19 i = sD S1 i ∧ G1 20 i = sG S1 i) (hV : stV G1 0 (sB S1)) : mdP Γ M1 m th1 S1 :=
  ⟨s, ah, od, ad, G1, e1, e2, hM1, hA, hs, hah, hod, h.2.2.2.2.2.1, hH, hO, hV⟩
/-- one int of a row was put; what else is there stays -/
theorem mdA.sti (h : mdA Γ M ad G) {c k : Nat} (hc : c < 15) (v : Int32) : ∃ G1, mdA Γ (hU M (ad c) (aI Γ 40 (upd (G c) k v))) ad G1 ∧ (∀ (y : Nat) (w : Bool) (r : Nat × List Value), M y = some (w, .inr r) → hU M (ad c) (aI Γ 40 (upd (G c) k v)) y = some (w, .inr r)) ∧ (∀ D : Nat → Prop, ∀ M0, hOff M0 M D → D (ad c) → hOff M0 (hU M (ad c) (aI Γ 40 (upd (G c) k v))) D) ∧ hKm M (hU M (ad c) (aI Γ 40 (upd (G c) k v))) ∧ ∀ c' i, G1 c' i = if c' = c ∧ i = k then v else G c' i := by
  refine ⟨_, h.st hc _, fun _ _ _ hy => (hU_n (h.ne (by omega) hy)).trans hy, fun D M0 ho hd => ho.put hd, hKm.rf.put (h.at0 hc) (Or.inr (Or.inr rfl)), fun c' i => ?_⟩
  by_cases e : c' = c
  · subst e
    rw [fUp_s]
    by_cases e2 : i = k
    · subst e2; rw [upd_s, if_pos ⟨rfl, rfl⟩]
    · rw [upd_n e2, if_neg (fun q => e2 q.2)]
  · rw [fUp_n e, if_neg (fun q => e q.1)]
theorem mdA.sti6 (h : mdA Γ M ad G) {c k : Nat} (hc : 15 ≤ c) (h21 : c < 21) (v : Int32) : ∃ G1, mdA Γ (hU M (ad c) (aI Γ 6 (upd (G c) k v))) ad G1 ∧ (∀ (y : Nat) (w : Bool) (r : Nat × List Value), M y = some (w, .inr r) → hU M (ad c) (aI Γ 6 (upd (G c) k v)) y = some (w, .inr r)) ∧ (∀ D : Nat → Prop, ∀ M0, hOff M0 M D → D (ad c) → hOff M0 (hU M (ad c) (aI Γ 6 (upd (G c) k v))) D) ∧ hKm M (hU M (ad c) (aI Γ 6 (upd (G c) k v))) ∧ ∀ c' i, G1 c' i = if c' = c ∧ i = k then v else G c' i := by
  refine ⟨_, h.st6 hc h21 _, fun _ _ _ hy => (hU_n (h.ne h21 hy)).trans hy, fun D M0 ho hd => ho.put hd, hKm.rf.put (h.at6 hc h21) (Or.inr (Or.inr rfl)), fun c' i => ?_⟩
  by_cases e : c' = c
  · subst e
    rw [fUp_s]
    by_cases e2 : i = k
    · subst e2; rw [upd_s, if_pos ⟨rfl, rfl⟩]
    · rw [upd_n e2, if_neg (fun q => e2 q.2)]
  · rw [fUp_n e, if_neg (fun q => e q.1)]
end hMd
