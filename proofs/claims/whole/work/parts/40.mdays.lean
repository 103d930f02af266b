/-! ===== the reference's days ===== -/
theorem g_top {Γ : hGam} {k : hCtx} {A : Nat → Prop} {Q : State → Prop} {M : hM} {n z pc : Nat} {L : List (Option Value)} {st : List Value} {x : Int32} (x1 : Int32) (h : x = x1) (kk : hG Γ k A Q M n z pc L (.int x1 :: st)) : hG Γ k A Q M n z pc L (.int x :: st) := h ▸ kk
theorem dv8_A : (List.range 40).all (fun k => decide (nI k / 8 = nI (k / 8))) = true := by decide +kernel
theorem dv8 {k : Nat} (h : k < 40) : nI k / 8 = nI (k / 8) := of_decide_eq_true (List.all_eq_true.mp dv8_A k (List.mem_range.mpr h))
theorem stV.ofR {G G' : Nat → Nat → Int32} {o o' : Nat} {B : Nat → hB} (h : stV G o B) (e : ∀ i, i < 40 → rG G' o' i = rG G o i) : stV G' o' B := fun i hi =>
  ⟨(congrArg (fun z => z.1) (e i hi)).trans (h i hi).1, fun q => (congrArg (fun z => z.2) (e i hi)).trans ((h i hi).2 q)⟩
def dyR (G : Nat → Nat → Int32) (o : Nat) (B W : Nat → hB) : Nat → rT := fun i => if (B i).1.isSome = true then (enc (B i).1, (W i).2) else rG G o i
theorem stV.day {G G1 : Nat → Nat → Int32} {o : Nat} {B W : Nat → hB} (h : stV G o B) (hW : ∀ i, (W i).1 = (B i).1) (e : ∀ i, i < 40 → rG G1 o i = dyR G o B W i) : stV G1 o W := fun i hi => by
  have e1 := e i hi
  unfold dyR at e1
  rw [hW i]
  cases hb : (B i).1 with
  | none =>
    rw [hb, if_neg (by simp)] at e1
    refine ⟨?_, fun q => absurd rfl q⟩
    rw [← hb]
    exact (congrArg (fun z => z.1) e1).trans (h i hi).1
  | some j =>
    rw [hb, if_pos (by rfl)] at e1
    exact ⟨congrArg (fun z => z.1) e1, fun _ => congrArg (fun z => z.2) e1⟩
theorem vDay_s {eH lH : Nat → Int32} {wi dmp : Int32} {B : Nat → hB} {k j : Nat} (h : (B k).1 = some j) : vDay eH lH wi dmp B k = dBun (eH j) (lH j) wi dmp B k := by
  unfold vDay; rw [h]
theorem mdQ.ahd {Γ : hGam} {M M1 : hM} {m : Nat} {th : Int32} {S : hS} {s ah od : Nat} {ad : Nat → Nat} {G G1 : Nat → Nat → Int32} {d1 d2 e1 e2 : Int32} (h : mdQ Γ M m th S s ah od ad G d1 d2) (hA : mdA Γ M1 ad G1) (hR : ∀ c, 15 ≤ c → G1 c = G c) (hL : ∀ c, c < 5 → G1 c = G c) (ha : M1 ah = some (true, oSt ad 5 e1)) (hd : M1 od = some (true, oSt ad 10 e2)) (ho : hOff M M1 (fun a => onAd ad a ∨ a = ah ∨ a = od)) : mdQ Γ M1 m th S s ah od ad G1 e1 e2 ∧ hKm M M1 := by
  obtain ⟨mM, mA, mS, mAh, mOd, mNe, mH, mO, mV⟩ := h
  have k1 : ∀ (y : Nat) (w : Bool) (r : Nat × List Value), M y = some (w, .inr r) → y ≠ ah → y ≠ od → M1 y = some (w, .inr r) := fun y w r hy n1 n2 => (ho y (fun q => by
    rcases q with ⟨c, hc, q⟩ | q | q
    · exact mA.ne hc hy q
    · exact n1 q
    · exact n2 q)).trans hy
  refine ⟨⟨k1 _ _ _ mM (fun q => by rw [q, mAh] at mM; cases mM) (fun q => by rw [q, mOd] at mM; cases mM), hA, k1 _ _ _ mS mNe.1 mNe.2.1, ha, hd, mNe, fun i hi => by rw [hR _ (by decide), hR _ (by decide)]; exact mH i hi, ⟨fun i hi => by rw [hR _ (by decide), hR _ (by decide), hR _ (by decide), hR _ (by decide)]; exact mO.1 i hi, fun i hi => by rw [hR _ (by decide)]; exact mO.2 i hi⟩, mV.ofR (fun i hi => by unfold rG; rw [hL _ (by decide), hL _ (by decide), hL _ (by decide), hL _ (by decide), hL _ (by decide)])⟩, hKm.off ho (fun a hd => ?_)⟩
  rcases hd with ⟨c, hc, q⟩ | q | q
  · exact ⟨aI Γ (adL c) (G c), by rw [q]; exact mA.2 c hc, Or.inr (Or.inr rfl)⟩
  · exact ⟨oSt ad 5 d1, by rw [q]; exact mAh, Or.inl rfl⟩
  · exact ⟨oSt ad 10 d2, by rw [q]; exact mOd, Or.inl rfl⟩
theorem mdQ.now {Γ : hGam} {M M1 : hM} {m : Nat} {th : Int32} {S : hS} {s ah od : Nat} {ad : Nat → Nat} {G G1 : Nat → Nat → Int32} {d1 d2 e2 : Int32} {B1 : Nat → hB} {day : Int32} (h : mdQ Γ M m th S s ah od ad G d1 d2) (hA : mdA Γ M1 ad G1) (hR : ∀ c, 15 ≤ c → G1 c = G c) (hs : M1 s = some (true, oSt ad 0 day)) (hd : M1 od = some (true, oSt ad 10 e2)) (ho : hOff M M1 (fun a => onAd ad a ∨ a = s ∨ a = od)) (hV : stV G1 0 B1) : mdQ Γ M1 m th (S.1, S.2.1, B1, S.2.2.2.1, day) s ah od ad G1 d1 e2 ∧ hKm M M1 := by
  obtain ⟨mM, mA, mS, mAh, mOd, mNe, mH, mO, mV⟩ := h
  have k1 : ∀ (y : Nat) (w : Bool) (r : Nat × List Value), M y = some (w, .inr r) → y ≠ s → y ≠ od → M1 y = some (w, .inr r) := fun y w r hy n1 n2 => (ho y (fun q => by
    rcases q with ⟨c, hc, q⟩ | q | q
    · exact mA.ne hc hy q
    · exact n1 q
    · exact n2 q)).trans hy
  refine ⟨⟨k1 _ _ _ mM (fun q => by rw [q, mS] at mM; cases mM) (fun q => by rw [q, mOd] at mM; cases mM), hA, hs, k1 _ _ _ mAh (Ne.symm mNe.1) mNe.2.2, hd, mNe, fun i hi => by rw [hR _ (by decide), hR _ (by decide)]; exact mH i hi, ⟨fun i hi => by rw [hR _ (by decide), hR _ (by decide), hR _ (by decide), hR _ (by decide)]; exact mO.1 i hi, fun i hi => by rw [hR _ (by decide)]; exact mO.2 i hi⟩, hV⟩, hKm.off ho (fun a hd => ?_)⟩
  rcases hd with ⟨c, hc, q⟩ | q | q
  · exact ⟨aI Γ (adL c) (G c), by rw [q]; exact mA.2 c hc, Or.inr (Or.inr rfl)⟩
  · exact ⟨oSt ad 0 (sDay S), by rw [q]; exact mS, Or.inl rfl⟩
  · exact ⟨oSt ad 10 d2, by rw [q]; exact mOd, Or.inl rfl⟩
theorem vDays_s {eH lH : Nat → Int32} {wi dmp : Int32} {B : Nat → hB} {n : Nat} : vDays eH lH wi dmp B (n + 1) = vDay eH lH wi dmp (vDays eH lH wi dmp B n) := hIt_s _ _ _
theorem vDays_lt {eH lH : Nat → Int32} {wi dmp : Int32} {B : Nat → hB} {n : Nat} (hB : ∀ i, i < 40 → ∀ j, (B i).1 = some j → j < n) (t : Nat) : ∀ i, i < 40 → ∀ j, (vDays eH lH wi dmp B t i).1 = some j → j < n := fun i hi j hj => hB i hi j (by rw [← vDays_1 eH lH wi dmp B i t]; exact hj)
theorem add_n1 (d : Int32) (i : Nat) : d + nI i + 1 = d + nI (i + 1) := by rw [Int32.add_assoc, nI_1]
theorem stV.turn5 {G G1 : Nat → Nat → Int32} {B : Nat → hB} {s : Nat} (h : stV G 5 B) (hG : ∀ i, i < 40 → rG G1 5 i = if i / 8 = s then rSwp (rG G 5 i) else rG G 5 i) : stV G1 5 (vTurn s B) := by
  have h0 : stV (fun c => G (5 + c)) 0 B := fun i hi => h i hi
  have h1 := h0.turn (G1 := fun c => G1 (5 + c)) (s := s) (fun i hi => hG i hi)
  exact fun i hi => h1 i hi
