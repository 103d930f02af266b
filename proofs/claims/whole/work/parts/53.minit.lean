/-! ===== the reference's rows, one after another ===== -/
def mdS (D : Nat → Prop) (Γ : hGam) (M : hM) (ad : Nat → Nat) (G : Nat → Nat → Int32) : Prop := (∀ i j, D i → D j → ad i = ad j → i = j) ∧ ∀ c, D c → M (ad c) = some (true, aI Γ (adL c) (G c))
def hKs (x : Nat) (M M1 : hM) : Prop := ∀ (c : Nat) (w : Bool) (e : va_E), M c = some (w, e) → c ≠ x → M1 c = some (w, e)
theorem hKs.rf {x : Nat} {M : hM} : hKs x M M := fun _ _ _ h _ => h
theorem hKs.tr {x : Nat} {M M1 M2 : hM} (h : hKs x M M1) (h2 : hKs x M1 M2) : hKs x M M2 := fun c w e hc hx => h2 c w e (h c w e hc hx) hx
theorem hKs.new {x b : Nat} {M : hM} {e : va_E} (hb : M b = none) : hKs x M (hU M b e) := fun c w e' hc _ => (hU_n (fun q => by rw [q, hb] at hc; cases hc)).trans hc
theorem hKs.own {x : Nat} {M : hM} {e : va_E} : hKs x M (hU M x e) := fun c w e' hc hx => (hU_n hx).trans hc
section hMs
variable {D : Nat → Prop} {Γ : hGam} {M : hM} {ad : Nat → Nat} {G : Nat → Nat → Int32}
theorem mdS.new (h : mdS D Γ M ad G) {b c n : Nat} (hb : M b = none) (hc : ¬ D c) (f : Nat → Int32) (hn : n = adL c) : ∃ ad1 G1, mdS (fun k => D k ∨ k = c) Γ (hU M b (aI Γ n f)) ad1 G1 ∧ ad1 c = b ∧ G1 c = f ∧ ∀ k, k ≠ c → ad1 k = ad k ∧ G1 k = G k := by
  refine ⟨fUp ad c b, fUp G c f, ⟨fun i j hi hj q => ?_, fun k hk => ?_⟩, fUp_s _ _ _, fUp_s _ _ _, fun k hk => ⟨fUp_n hk, fUp_n hk⟩⟩
  · by_cases e1 : i = c <;> by_cases e2 : j = c
    · rw [e1, e2]
    · rw [e1, fUp_s, fUp_n e2] at q
      have := h.2 j (hj.resolve_right e2)
      rw [← q, hb] at this; cases this
    · rw [e2, fUp_s, fUp_n e1] at q
      have := h.2 i (hi.resolve_right e1)
      rw [q, hb] at this; cases this
    · rw [fUp_n e1, fUp_n e2] at q
      exact h.1 i j (hi.resolve_right e1) (hj.resolve_right e2) q
  · by_cases e1 : k = c
    · subst e1; rw [fUp_s, fUp_s, hU_s, hn]
    · have := h.2 k (hk.resolve_right e1)
      rw [fUp_n e1, fUp_n e1, hU_n (fun q => by rw [q, hb] at this; cases this)]; exact this
theorem mdS.cell (h : mdS D Γ M ad G) {y : Nat} {w : Bool} {r : Nat × List Value} (hy : M y = some (w, .inr r)) (e : va_E) : mdS D Γ (hU M y e) ad G := ⟨h.1, fun c hc => by
  have := h.2 c hc
  rw [hU_n (fun q => by rw [q, hy] at this; cases this)]; exact this⟩
theorem mdS.fresh (h : mdS D Γ M ad G) {b : Nat} (hb : M b = none) (e : va_E) : mdS D Γ (hU M b e) ad G := ⟨h.1, fun c hc => by
  have := h.2 c hc
  rw [hU_n (fun q => by rw [q, hb] at this; cases this)]; exact this⟩
theorem mdS.st (h : mdS D Γ M ad G) {c n : Nat} (hc : D c) (f : Nat → Int32) (hn : n = adL c) : mdS D Γ (hU M (ad c) (aI Γ n f)) ad (fUp G c f) := ⟨h.1, fun k hk => by
  by_cases e1 : k = c
  · subst e1; rw [fUp_s, hU_s, hn]
  · rw [fUp_n e1, hU_n (fun q => e1 (h.1 k c hk hc q))]; exact h.2 k hk⟩
theorem mdS.ne (h : mdS D Γ M ad G) {c y : Nat} {w : Bool} {r : Nat × List Value} (hc : D c) (hy : M y = some (w, .inr r)) : y ≠ ad c := fun q => by
  have := h.2 c hc
  rw [← q, hy] at this; cases this
end hMs
