/-! ===== the reference's rows: 21 arrays of ints by number; a state is five of them ===== -/
def adL (c : Nat) : Nat := if c < 15 then 40 else 6
def mdA (Γ : hGam) (M : hM) (ad : Nat → Nat) (G : Nat → Nat → Int32) : Prop := (∀ i j, i < 21 → j < 21 → ad i = ad j → i = j) ∧ ∀ c, c < 21 → M (ad c) = some (true, aI Γ (adL c) (G c))
def onAd (ad : Nat → Nat) (a : Nat) : Prop := ∃ c, c < 21 ∧ a = ad c
theorem mdA.at0 {Γ : hGam} {M : hM} {ad : Nat → Nat} {G : Nat → Nat → Int32} (h : mdA Γ M ad G) {c : Nat} (hc : c < 15) : M (ad c) = some (true, aI Γ 40 (G c)) := by
  rw [h.2 c (by omega)]; unfold adL; rw [if_pos hc]
theorem mdA.at6 {Γ : hGam} {M : hM} {ad : Nat → Nat} {G : Nat → Nat → Int32} (h : mdA Γ M ad G) {c : Nat} (hc : 15 ≤ c) (h21 : c < 21) : M (ad c) = some (true, aI Γ 6 (G c)) := by
  rw [h.2 c h21]; unfold adL; rw [if_neg (by omega)]
theorem mdA.st {Γ : hGam} {M : hM} {ad : Nat → Nat} {G : Nat → Nat → Int32} (h : mdA Γ M ad G) {c : Nat} (hc : c < 15) (f : Nat → Int32) : mdA Γ (hU M (ad c) (aI Γ 40 f)) ad (fUp G c f) := ⟨h.1, fun i hi => by
  by_cases e : i = c
  · subst e; rw [hU_s, fUp_s]; unfold adL; rw [if_pos hc]
  · rw [hU_n (fun q => e (h.1 i c hi (by omega) q)), fUp_n e]; exact h.2 i hi⟩
theorem mdA.st6 {Γ : hGam} {M : hM} {ad : Nat → Nat} {G : Nat → Nat → Int32} (h : mdA Γ M ad G) {c : Nat} (hc : 15 ≤ c) (h21 : c < 21) (f : Nat → Int32) : mdA Γ (hU M (ad c) (aI Γ 6 f)) ad (fUp G c f) := ⟨h.1, fun i hi => by
  by_cases e : i = c
  · subst e; rw [hU_s, fUp_s]; unfold adL; rw [if_neg (by omega)]
  · rw [hU_n (fun q => e (h.1 i c hi (by omega) q)), fUp_n e]; exact h.2 i hi⟩
theorem mdA.off {Γ : hGam} {M M1 : hM} {ad : Nat → Nat} {G : Nat → Nat → Int32} (h : mdA Γ M ad G) (ho : ∀ c, c < 21 → M1 (ad c) = M (ad c)) : mdA Γ M1 ad G := ⟨h.1, fun c hc => (ho c hc).trans (h.2 c hc)⟩
abbrev oSt (ad : Nat → Nat) (o : Nat) (d : Int32) : va_E := oState d (some (ad o)) (some (ad (o + 1))) (some (ad (o + 2))) (some (ad (o + 3))) (some (ad (o + 4)))
def dec (x : Int32) : Option Nat := if x = -1 then none else some x.toNatClampNeg
def enc (o : Option Nat) : Int32 := match o with | none => -1 | some j => nI j
theorem dec_n : dec (-1) = none := if_pos rfl
theorem nI_m1 {j : Nat} (h : j < 2 ^ 31) : ¬ nI j = -1 := fun q => by
  have := nI_pos' (n := j) h
  rw [q] at this
  exact absurd this (by decide)
theorem dec_s {j : Nat} (h : j < 2 ^ 31) : dec (nI j) = some j := by
  unfold dec
  rw [if_neg (nI_m1 h), nI_clamp h]
def vG (G : Nat → Nat → Int32) (o : Nat) : Nat → hB := fun i => (dec (G o i), G (o + 1) i, G (o + 2) i, G (o + 3) i, G (o + 4) i)
theorem hang1 {x : Int32} (h : ¬ x = -1) : bI (dec x).isSome = 1 := by unfold dec; rw [if_neg h]; rfl
theorem hang0 {x : Int32} (h : x = -1) : bI (dec x).isSome = 0 := by unfold dec; rw [if_pos h]; rfl
def bmO (V : Nat → hB) (k : Nat) : Option Nat := if (decide (k % 8 ≠ 0) && bTak (V (k - 1))) = true then some (k - 1) else none
def bpO (V : Nat → hB) (k : Nat) : Option Nat := if (decide (k % 8 ≠ 7) && bTak (V (k + 1))) = true then some (k + 1) else none
def iwO (V : Nat → hB) (o : Option Nat) (k : Nat) : Bool := match o with | none => false | some j => decide (bWet (V k) < bWet (V j))
def ibO (V : Nat → hB) (o : Option Nat) : Bool := match o with | none => false | some j => decide (3 ≤ (V j).2.2.2.2)
theorem bm_A : (List.range 40).all (fun k => decide ((decide (0 ≤ nI k - nI k / 8 * 8 + (-1)) && decide (nI k - nI k / 8 * 8 + (-1) ≤ 7)) = decide (k % 8 ≠ 0))) = true := by decide +kernel
theorem bp_A : (List.range 40).all (fun k => decide ((decide (0 ≤ nI k - nI k / 8 * 8 + 1) && decide (nI k - nI k / 8 * 8 + 1 ≤ 7)) = decide (k % 8 ≠ 7))) = true := by decide +kernel
theorem bm_is {k : Nat} (h : k < 40) : (decide (0 ≤ nI k - nI k / 8 * 8 + (-1)) && decide (nI k - nI k / 8 * 8 + (-1) ≤ 7)) = decide (k % 8 ≠ 0) := of_decide_eq_true (List.all_eq_true.mp bm_A k (List.mem_range.mpr h))
theorem bp_is {k : Nat} (h : k < 40) : (decide (0 ≤ nI k - nI k / 8 * 8 + 1) && decide (nI k - nI k / 8 * 8 + 1 ≤ 7)) = decide (k % 8 ≠ 7) := of_decide_eq_true (List.all_eq_true.mp bp_A k (List.mem_range.mpr h))
theorem bm_B : (List.range 40).all (fun k => decide (nI (k + 1) + (-1) = nI k)) = true := by decide +kernel
theorem bm_k {k : Nat} (h : k < 40) (h0 : k % 8 ≠ 0) : nI k + (-1) = nI (k - 1) := by
  have := of_decide_eq_true (List.all_eq_true.mp bm_B (k - 1) (List.mem_range.mpr (by omega)))
  rw [show k - 1 + 1 = k by omega] at this
  exact this
theorem oWet {V : Nat → hB} {k : Nat} : bI (iwO V (bmO V k) k) + bI (iwO V (bpO V k) k) = wets V k := by
  unfold wets nbW naW bmO bpO iwO
  cases h1 : bTak (V (k - 1)) <;> cases h2 : bTak (V (k + 1)) <;> by_cases h3 : k % 8 = 0 <;> by_cases h4 : k % 8 = 7 <;> simp [h3, h4]
theorem oBad {V : Nat → hB} {k : Nat} : (ibO V (bmO V k) || ibO V (bpO V k)) = nSp V k := by
  unfold nSp bmO bpO ibO
  cases h1 : bTak (V (k - 1)) <;> cases h2 : bTak (V (k + 1)) <;> by_cases h3 : k % 8 = 0 <;> by_cases h4 : k % 8 = 7 <;> simp [h3, h4]
theorem oNbr {V : Nat → hB} {k : Nat} : bI (bmO V k).isSome + bI (bpO V k).isSome = nbrs V k := by
  unfold nbrs nbT naT bmO bpO
  cases h1 : bTak (V (k - 1)) <;> cases h2 : bTak (V (k + 1)) <;> by_cases h3 : k % 8 = 0 <;> by_cases h4 : k % 8 = 7 <;> simp [h3, h4]
theorem enc_m1 {o : Option Nat} (h : ∀ j, o = some j → j < 2 ^ 31) : (enc o = -1) ↔ o = none := by
  cases o with
  | none => exact ⟨fun _ => rfl, fun _ => rfl⟩
  | some j => exact ⟨fun q => absurd q (nI_m1 (h j rfl)), fun q => by cases q⟩
theorem bmO_lt {V : Nat → hB} {k : Nat} (h : k < 40) : ∀ j, bmO V k = some j → j < 40 := fun j q => by
  unfold bmO at q
  split at q
  · cases q; omega
  · cases q
theorem bpO_lt {V : Nat → hB} {k : Nat} (h : k < 40) : ∀ j, bpO V k = some j → j < 40 := fun j q => by
  unfold bpO at q
  split at q
  · rename_i h2
    cases q
    simp only [Bool.and_eq_true, decide_eq_true_eq] at h2
    omega
  · cases q
def fSm (V : Nat → hB) (w : Int32) : Nat → Int32 → Int32 := fun i s => if bTak (V i) = true then s + (if w = 2 then 1 else if w = 3 then (if 0 < (V i).2.2.2.2 then 1 else 0) else bWet (V i)) else s
theorem fSm_2 {V : Nat → hB} : hIt (fSm V 2) 0 40 = hIt (fCnt V) 0 40 := hIt_cg fun i _ s => by
  show (if bTak (V i) = true then s + (if (2 : Int32) = 2 then 1 else _) else s) = if (V i).1.isSome = true then s + 1 else s
  rw [if_pos (rfl : (2 : Int32) = 2)]; rfl
theorem fSm_3 {V : Nat → hB} : hIt (fSm V 3) 0 40 = hIt (fBad V) 0 40 := hIt_cg fun i _ s => by
  show (if bTak (V i) = true then s + (if (3 : Int32) = 2 then 1 else if (3 : Int32) = 3 then (if 0 < (V i).2.2.2.2 then 1 else 0) else _) else s) = if ((V i).1.isSome && decide (0 < (V i).2.2.2.2)) = true then s + 1 else s
  unfold bTak
  cases (V i).1.isSome <;> by_cases h : 0 < (V i).2.2.2.2 <;> simp [h]
theorem fSm_8 {V : Nat → hB} : hIt (fSm V 8) 0 40 = hIt (fSum V) 0 40 := hIt_cg fun i _ s => by
  show (if bTak (V i) = true then s + (if (8 : Int32) = 2 then 1 else if (8 : Int32) = 3 then _ else bWet (V i)) else s) = if (V i).1.isSome = true then s + ((V i).2.1 + (V i).2.2.1) / 2 else s
  rw [if_neg (show ¬ (8 : Int32) = 2 by decide), if_neg (show ¬ (8 : Int32) = 3 by decide)]; rfl
theorem mdA.ne {Γ : hGam} {M : hM} {ad : Nat → Nat} {G : Nat → Nat → Int32} (h : mdA Γ M ad G) {c y : Nat} {w : Bool} {r : Nat × List Value} (hc : c < 21) (hy : M y = some (w, .inr r)) : y ≠ ad c := fun q => by
  rw [q, h.2 c hc] at hy; cases hy
theorem mdA.st2 {Γ : hGam} {M M0 : hM} {ad : Nat → Nat} {G : Nat → Nat → Int32} (h : mdA Γ M ad G) (ho : hOff M0 M (onAd ad)) {c : Nat} (hc : c < 15) (f : Nat → Int32) : mdA Γ (hU M (ad c) (aI Γ 40 f)) ad (fUp G c f) ∧ hOff M0 (hU M (ad c) (aI Γ 40 f)) (onAd ad) ∧ ∀ (y : Nat) (w : Bool) (r : Nat × List Value), M y = some (w, .inr r) → hU M (ad c) (aI Γ 40 f) y = some (w, .inr r) :=
  ⟨h.st hc f, ho.put ⟨c, by omega, rfl⟩, fun _ _ _ hy => (hU_n (h.ne (by omega) hy)).trans hy⟩
theorem mdA.st3 {Γ : hGam} {M M0 : hM} {ad : Nat → Nat} {G : Nat → Nat → Int32} (h : mdA Γ M ad G) (ho : hOff M0 M (onAd ad)) {c : Nat} (hc : 15 ≤ c) (h21 : c < 21) (f : Nat → Int32) : mdA Γ (hU M (ad c) (aI Γ 6 f)) ad (fUp G c f) ∧ hOff M0 (hU M (ad c) (aI Γ 6 f)) (onAd ad) ∧ ∀ (y : Nat) (w : Bool) (r : Nat × List Value), M y = some (w, .inr r) → hU M (ad c) (aI Γ 6 f) y = some (w, .inr r) :=
  ⟨h.st6 hc h21 f, ho.put ⟨c, h21, rfl⟩, fun _ _ _ hy => (hU_n (h.ne h21 hy)).trans hy⟩
theorem mdA.cell {Γ : hGam} {M : hM} {ad : Nat → Nat} {G : Nat → Nat → Int32} (h : mdA Γ M ad G) {y : Nat} {w : Bool} {r : Nat × List Value} (hy : M y = some (w, .inr r)) (e : va_E) : mdA Γ (hU M y e) ad G := h.off (fun c hc => hU_n (Ne.symm (h.ne hc hy)))
theorem upd_s (f : Nat → Int32) (k : Nat) (x : Int32) : upd f k x k = x := by simp [upd]
theorem upd_n {f : Nat → Int32} {k j : Nat} {x : Int32} (h : j ≠ k) : upd f k x j = f j := by simp [upd, h]
abbrev rT : Type := Int32 × Int32 × Int32 × Int32 × Int32
def rG (G : Nat → Nat → Int32) (o : Nat) : Nat → rT := fun i => (G o i, G (o + 1) i, G (o + 2) i, G (o + 3) i, G (o + 4) i)
def rSwp (v : rT) : rT := (v.1, v.2.2.1, v.2.1, v.2.2.2)
def laR (V : Nat → rT) (f t : Nat) : Nat → rT := fun i => if i = f then (-1, (V f).2) else if i = t then V f else V i
theorem ifc9 {P Q : Prop} [Decidable P] [Decidable Q] (h : P ↔ Q) {α : Type} {a b : α} : (if P then a else b) = if Q then a else b := by
  by_cases p : P
  · rw [if_pos p, if_pos (h.mp p)]
  · rw [if_neg p, if_neg (fun q => p (h.mpr q))]
theorem nI_mul8 (s : Nat) : 8 * nI s = nI (8 * s) := by rw [show (8 : Int32) = nI 8 from rfl, pk_mul]
