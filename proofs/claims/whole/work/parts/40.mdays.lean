/-! ===== the reference's days ===== -/
theorem g_top {Γ : hGam} {k : hCtx} {A : Nat → Prop} {Q : State → Prop} {M : hM} {n z pc : Nat} {L : List (Option Value)} {st : List Value} {x : Int32} (x1 : Int32) (h : x = x1) (kk : hG Γ k A Q M n z pc L (.int x1 :: st)) : hG Γ k A Q M n z pc L (.int x :: st) := h ▸ kk
theorem dv8_A : (List.range 40).all (fun k => decide (nI k / 8 = nI (k / 8))) = true := by decide +kernel
theorem dv8 {k : Nat} (h : k < 40) : nI k / 8 = nI (k / 8) := of_decide_eq_true (List.all_eq_true.mp dv8_A k (List.mem_range.mpr h))
theorem stV.ofR {G G' : Nat → Nat → Int32} {o o' : Nat} {B : Nat → hB} (h : stV G o B) (e : ∀ i, i < 40 → rG G' o' i = rG G o i) : stV G' o' B := fun i hi =>
  ⟨(congrArg (fun z => z.1) (e i hi)).trans (h i hi).1, fun q => (congrArg (fun z => z.2) (e i hi)).trans ((h i hi).2 q)⟩
def dyR (G : Nat → Nat → Int32) (o : Nat) (B W : Nat → hB) : Nat → rT := fun i => if (B i).1.isSome = true then (enc (B i).1, (W i).2) else rG G o i
theorem stV.day {G G1 : Nat → Nat → Int32} {o : Nat} {B W : Nat → hB} (h : stV G o B) (hW : ∀ i, (W i).1 = (B i).1) (e : ∀ i, i < 40 → rG G1 o i = dyR G o B W i) : stV G1 o W := fun i hi => by
  have e1 := e i hi
  unfold dyR at e1
  rw [hW i]
  cases hb : (B i).1 with
  | none =>
    rw [hb, if_neg (by simp)] at e1
    refine ⟨?_, fun q => absurd rfl q⟩
    rw [← hb]
    exact (congrArg (fun z => z.1) e1).trans (h i hi).1
  | some j =>
    rw [hb, if_pos (by rfl)] at e1
    exact ⟨congrArg (fun z => z.1) e1, fun _ => congrArg (fun z => z.2) e1⟩
theorem vDay_s {eH lH : Nat → Int32} {wi dmp : Int32} {B : Nat → hB} {k j : Nat} (h : (B k).1 = some j) : vDay eH lH wi dmp B k = dBun (eH j) (lH j) wi dmp B k := by
  unfold vDay; rw [h]
