/-! ===== filling, as numbers ===== -/
theorem gvR_st {oh : Option Nat} {many wet got : Int32} {B : Nat → hB} {t : Nat} (h : ¬ (gvR oh many wet got B t).2.1 < many) : ∀ d, gvR oh many wet got B (t + d) = gvR oh many wet got B t
  | 0 => rfl
  | d + 1 => by
    have e : gvR oh many wet got B (t + d + 1) = gvS oh many wet (t + d) (gvR oh many wet got B (t + d)) := hIt_s _ _ _
    rw [show t + (d + 1) = t + d + 1 by omega, e, gvR_st h d]
    unfold gvS
    rw [if_neg (by rw [decide_eq_false h]; simp)]
theorem gvR_s {oh : Option Nat} {many wet got : Int32} {B : Nat → hB} {t : Nat} : gvR oh many wet got B (t + 1) = gvS oh many wet t (gvR oh many wet got B t) := hIt_s _ _ _
theorem gv_acc {oh : Option Nat} {many wet got : Int32} {B : Nat → hB} : ∀ t, (gvR oh many wet got B t).2.1 = got + (gvR oh many wet got B t).2.2
  | 0 => by
    show got = got + 0
    rw [Int32.add_zero]
  | t + 1 => by
    have ih := gv_acc (oh := oh) (many := many) (wet := wet) (got := got) (B := B) t
    rw [gvR_s]
    unfold gvS
    split
    · show (gvR oh many wet got B t).2.1 + 1 = got + ((gvR oh many wet got B t).2.2 + 1)
      rw [ih, Int32.add_assoc]
    · exact ih
abbrev sumG (G : Nat → Int32) (n : Nat) : Int32 := hIt (fun i s => s + G i) 0 n
theorem sum_cg {G G' : Nat → Int32} {n : Nat} (h : ∀ i, i < n → G i = G' i) : sumG G n = sumG G' n := hIt_cg fun i hi s => by show s + G i = s + G' i; rw [h i hi]
theorem sum_s (G : Nat → Int32) (n : Nat) : sumG G (n + 1) = sumG G n + G n := hIt_s _ _ _
theorem sum_up {G : Nat → Int32} {i : Nat} {δ : Int32} : ∀ n, i < n → sumG (fUp G i (G i + δ)) n = sumG G n + δ
  | 0, h => absurd h (Nat.not_lt_zero _)
  | n + 1, h => by
    rw [sum_s, sum_s]
    by_cases e : i = n
    · subst e
      rw [fUp_s, sum_cg (G' := G) (fun k hk => fUp_n (by omega)), Int32.add_assoc]
    · rw [fUp_n (fun q => e q.symm), sum_up n (by omega), Int32.add_assoc, Int32.add_comm δ, ← Int32.add_assoc]
theorem fl_sum {W : Nat → Option Nat} {Mn Dr G : Nat → Int32} {B : Nat → hB} {n : Nat} : ∀ i, i ≤ n → sumG (flR W Mn Dr G B i).2.1 n = sumG G n + (flR W Mn Dr G B i).2.2
  | 0, _ => by
    show sumG G n = sumG G n + 0
    rw [Int32.add_zero]
  | i + 1, h => by
    have ih := fl_sum (W := W) (Mn := Mn) (Dr := Dr) (G := G) (B := B) (n := n) i (by omega)
    have e : flR W Mn Dr G B (i + 1) = flS W Mn Dr i (flR W Mn Dr G B i) := hIt_s _ _ _
    rw [e]
    generalize flR W Mn Dr G B i = x at ih
    unfold flS
    show sumG (fUp x.2.1 i (gvR (W i) (Mn i) (Dr i) (x.2.1 i) x.1 40).2.1) n = sumG G n + (x.2.2 + (gvR (W i) (Mn i) (Dr i) (x.2.1 i) x.1 40).2.2)
    rw [gv_acc 40, sum_up n (by omega), ih, Int32.add_assoc]
theorem givn_f (S : hS) : givn (sFill S).2 = givn S + (sFill S).1 := fl_sum (W := fun i => some (sW S i)) (Mn := sM S) (Dr := sD S) (G := sG S) (B := sB S) (n := sO S) (sO S) (Nat.le_refl _)
theorem fl_hi {W : Nat → Option Nat} {Mn Dr G : Nat → Int32} {B : Nat → hB} {k : Nat} : ∀ i, i ≤ k → (flR W Mn Dr G B i).2.1 k = G k
  | 0, _ => rfl
  | i + 1, h => by
    have ih := fl_hi (W := W) (Mn := Mn) (Dr := Dr) (G := G) (B := B) (k := k) i (by omega)
    have e : flR W Mn Dr G B (i + 1) = flS W Mn Dr i (flR W Mn Dr G B i) := hIt_s _ _ _
    rw [e]
    unfold flS
    show fUp (flR W Mn Dr G B i).2.1 i _ k = _
    rw [fUp_n (by omega)]; exact ih
theorem fl_lt {W : Nat → Option Nat} {Mn Dr G : Nat → Int32} {B : Nat → hB} {n : Nat} (hB : ∀ i, i < 40 → ∀ j, (B i).1 = some j → j < n) : ∀ t, ∀ i, i < 40 → ∀ j, ((flR W Mn Dr G B t).1 i).1 = some j → j < n
  | 0 => hB
  | t + 1 => by
    have ih := fl_lt (W := W) (Mn := Mn) (Dr := Dr) (G := G) hB t
    have e : flR W Mn Dr G B (t + 1) = flS W Mn Dr t (flR W Mn Dr G B t) := hIt_s _ _ _
    rw [e]
    unfold flS
    exact gvR_1 ih 40
/-! ===== filling, of the simulation ===== -/
def noR8 : kK → Bool := fun n => !(n.1 == 12 && n.2 == 8)
def noO4 : kK → Bool := fun n => !(n.1 == 10 && n.2 == 4)
theorem noR8_s {n : Nat} (h : n ≤ 6) : noR8 (12, n) = true := by
  have : (n == 8) = false := by simp; omega
  unfold noR8
  simp only [this, Bool.and_false, Bool.not_false]
theorem noSim_noR8 : ∀ n, noSim n = true → noR8 n = true := fun n h => by
  unfold noSim at h
  unfold noR8
  revert h
  cases h1 : (n.1 == 12 && n.2 == 8) <;> simp
theorem noSim_noO4 : ∀ n, noSim n = true → noO4 n = true := fun n h => by
  unfold noSim at h
  unfold noO4
  revert h
  cases h1 : (n.1 == 10) <;> cases h2 : (n.2 == 4) <;> simp
theorem smO.put {Γ : hGam} {M : hM} {oa n : Nat} {ob : Nat → Nat} {W : Nat → Nat} {Mn Dr G : Nat → Int32} (h : smO Γ M oa n ob W Mn Dr G) {i : Nat} (hi : i < n) {f : Nat → Int32} {x : Int32} (h0 : f 0 = nI (W i)) (h1 : f 1 = Mn i) (h2 : f 2 = Dr i) (h3 : f 3 = x) : smO Γ (hU M (ob i) (aI Γ 4 f)) oa n ob W Mn Dr (fUp G i x) := by
  obtain ⟨g, a1, a2, a3⟩ := h
  have hn : oa ≠ ob i := fun q => by
    obtain ⟨-, f2, b2, -⟩ := a2 i hi
    rw [← q, a1] at b2
    have e1 := (Prod.mk.inj (Option.some.inj b2)).2
    have e2 := (Prod.mk.inj (Prod.mk.inj (Sum.inl.inj e1)).2).2
    cases e2
  refine ⟨g, (hU_n hn).trans a1, fun k hk => ?_, a3⟩
  obtain ⟨b1, f2, b2, b3⟩ := a2 k hk
  refine ⟨b1, ?_⟩
  by_cases q : k = i
  · subst q
    exact ⟨f, hU_s _ _ _, h0, h1, h2, by rw [fUp_s]; exact h3⟩
  · exact ⟨f2, (hU_n (fun z => q (a3 k i hk hi z))).trans b2, b3.1, b3.2.1, b3.2.2.1, by rw [fUp_n q]; exact b3.2.2.2⟩
/-- a bundle's ints, or none -/
theorem smB.ff {Γ : hGam} {M : hM} {bd : Nat → Option Nat} {B : Nat → hB} (h : smB Γ M bd B) {i : Nat} (hi : i < 40) : ∃ f : Nat → Int32, (∀ a, bd i = some a → M a = some (true, aI Γ 5 f)) ∧ ∀ j, (B i).1 = some j → smC j (B i) f := by
  cases e : bd i with
  | none => exact ⟨fun _ => 0, (fun a q => nomatch q), (fun j q => by rw [h.2.1 i hi e] at q; cases q)⟩
  | some a =>
    obtain ⟨j, f, h1, h2, h3⟩ := h.1 i hi a e
    refine ⟨f, fun a2 q => by cases q; exact h2, fun j2 q => ?_⟩
    cases h1.symm.trans q
    exact h3
theorem smB.fit {Γ : hGam} {M : hM} {bd : Nat → Option Nat} {B : Nat → hB} (h : smB Γ M bd B) {i W : Nat} (hi : i < 40) {f : Nat → Int32} (hf : ∀ j, (B i).1 = some j → smC j (B i) f) (hj : ∀ j, (B i).1 = some j → j < 6) (hW : W < 6) {c dr : Int32} (hc : c = nI W) : ((bd i).isSome && (decide (f 0 = c) && (decide ((f 1 + f 2) / 2 ≤ dr) && decide (f 4 = 0)))) = bFit (B i) (some W) dr := by
  subst hc
  rw [← h.tak hi]
  unfold bFit
  cases e : (B i).1 with
  | none => rfl
  | some j =>
    obtain ⟨q0, q1, q2, q3, q4⟩ := hf j e
    have hj6 := hj j e
    have e2 : decide (nI j = nI W) = decide (some j = some W) := decide_eq_decide.mpr ⟨fun z => by rw [(nI_eq (a := j) (b := W) (by omega) (by omega)).mp z], fun z => by cases z; rfl⟩
    rw [q0, q1, q2, q4, e2]
    cases decide (some j = some W) <;> rfl
/-- the hooks from behind -/
def atV (u : Nat) : Int32 := nI (40 - u) + (-1)
theorem atV_lt {u : Nat} (h : u < 40) : atV u = nI (39 - u) := by
  unfold atV
  rw [show 40 - u = (39 - u) + 1 by omega, pk_m1]
theorem atV_s {u : Nat} (h : u < 40) : atV u + (-1) = atV (u + 1) := by
  rw [atV_lt h]
  unfold atV
  rw [show 40 - (u + 1) = 39 - u by omega]
theorem atV_neg {u : Nat} (hu : u ≤ 40) (h : atV u < 0) : u = 40 := by
  rcases Nat.lt_or_ge u 40 with q | q
  · rw [atV_lt q] at h
    exact absurd h (nI_pos (by omega))
  · omega
theorem atV_pos {u : Nat} (hu : u ≤ 40) (h : ¬ atV u < 0) : u < 40 := by
  rcases Nat.lt_or_ge u 40 with q | q
  · exact q
  · have : u = 40 := by omega
    subst this
    exact absurd (by decide) h
theorem atV_div {u : Nat} (h : u < 40) : atV u / 8 = nI (4 - u / 8) := by
  rw [atV_lt h, show (8 : Int32) = nI 8 from rfl, pk_div (by omega) (by decide) (by decide), show (39 - u) / 8 = 4 - u / 8 by omega]
theorem atV_rem {u : Nat} (h : u < 40) : 7 - (atV u - atV u / 8 * 8) = nI (u % 8) := by
  rw [atV_lt h, show nI (39 - u) - nI (39 - u) / 8 * 8 = nI ((39 - u) % 8) from pk_rem (by omega) (by decide) (by decide), show (7 : Int32) = nI 7 from rfl, pk_sub (by omega), show 7 - (39 - u) % 8 = u % 8 by omega]
/-- how much the orders lack is never less than nothing -/
def gOk (n : Nat) (Mn G : Nat → Int32) : Prop := ∀ i, i < n → ∃ m g : Nat, m ≤ 9 ∧ g ≤ m ∧ Mn i = nI m ∧ G i = nI g
theorem gOk.up {n : Nat} {Mn G : Nat → Int32} (h : gOk n Mn G) {i m g : Nat} (hm : m ≤ 9) (hg : g ≤ m) (e : Mn i = nI m) : gOk n Mn (fUp G i (nI g)) := fun k hk => by
  by_cases q : k = i
  · subst q; exact ⟨m, g, hm, hg, e, fUp_s _ _ _⟩
  · obtain ⟨m2, g2, h1, h2, h3, h4⟩ := h k hk
    exact ⟨m2, g2, h1, h2, h3, by rw [fUp_n q]; exact h4⟩
theorem gvS_y {oh : Option Nat} {many wet : Int32} {t : Nat} {s : gvT} (h1 : s.2.1 < many) (h2 : bFit (s.1 (ixT t)) oh wet = true) : gvS oh many wet t s = (fUp s.1 (ixT t) (none, 0, 0, 0, 0), s.2.1 + 1, s.2.2 + 1) := by
  unfold gvS
  rw [if_pos (by rw [decide_eq_true h1, h2]; rfl)]
theorem gvS_n {oh : Option Nat} {many wet : Int32} {t : Nat} {s : gvT} (h : ¬ s.2.1 < many ∨ bFit (s.1 (ixT t)) oh wet = false) : gvS oh many wet t s = s := by
  unfold gvS
  rcases h with h | h
  · rw [if_neg (by rw [decide_eq_false h]; simp)]
  · rw [if_neg (by rw [h]; simp)]
def noFi : kK → Bool := fun n => !(n.1 == 10 && n.2 == 4) && !(n.1 == 12 && n.2 == 8)
theorem noFi_s {n : Nat} (h : n ≤ 6) : noFi (12, n) = true := by
  have : (n == 8) = false := by simp; omega
  unfold noFi
  simp only [this, Bool.and_false, Bool.not_false, Bool.and_true]
  rfl
theorem noFi_8 : ∀ n, noFi n = true → noR8 n = true := fun n h => by
  unfold noFi at h
  unfold noR8
  revert h
  cases h1 : (n.1 == 12 && n.2 == 8) <;> simp
theorem noFi_4 : ∀ n, noFi n = true → noO4 n = true := fun n h => by
  unfold noFi at h
  unfold noO4
  revert h
  cases h1 : (n.1 == 10 && n.2 == 4) <;> simp
theorem noSim_noFi : ∀ n, noSim n = true → noFi n = true := fun n h => by
  have h1 := noSim_noR8 n h
  have h2 := noSim_noO4 n h
  unfold noR8 at h1
  unfold noO4 at h2
  unfold noFi
  rw [h1, h2]
  rfl
theorem fUp_fUp {α : Type} {f : Nat → α} {k : Nat} {v w : α} : fUp (fUp f k v) k w = fUp f k w := by
  funext i
  by_cases h : i = k
  · subst h; rw [fUp_s, fUp_s]
  · rw [fUp_n h, fUp_n h, fUp_n h]
set_option maxRecDepth 100000 in
set_option maxHeartbeats 4000000 in
theorem c_X5_fill (Γ : hGam) (l : Launch) {M : hM} {x : Nat} {S : hS} {D : Nat} (hS : smP Γ M x S) (hI : sI2 S D) : hMet Γ l yX5_fill cX5_fill 9 (some .int) rm_X5_fill [.ref x] M (hpI (fun a M1 => a = (sFill S).1 ∧ smP Γ M1 x (sFill S).2 ∧ hKp noSim M M1)) := by
  obtain ⟨ha, oa, la, ob, rx, bd, hQ⟩ := hS
  obtain ⟨pX, pH, pO, pL, pB⟩ := id hQ
  have hn6 := hI.1.1
  have ho6 := hI.1.2
  obtain ⟨of0, hOa0, ob0, oc0⟩ := id pO
  have hg0 : gOk (sO S) (sM S) (sG S) := fun i hi => by
    obtain ⟨-, m, d, g, -, z2, -, z4, z5, -, z7⟩ := hI.2.2.2.2 i hi
    exact ⟨m, g, z2, z4, z5, z7⟩
  refine hMet_of (by decide +kernel) (Nat.le_of_ble_eq_true rfl) (hCat_cons rfl hCat_nil) (fun k9 C => ?_)
  show hG _ _ _ _ _ _ _ _ [some (.ref x), none, none, none, none, none, none, none, none] _
  refine g_iconst (q := 1) (0) C dX5_fill_0 (by decide) rfl ?_
  refine g_istore1 (q := 2) C dX5_fill_1 (by first | rfl | exact hNw_rf _) rfl ?_
  refine g_aload_n (q := 3) C dX5_fill_2 rfl (by first | exact hRef_r _ | exact hRef_o _ | exact hRef_n) rfl ?_
  refine g_get (q := 6) C hcl_X5 4 (by decide) qw_642 rfl dX5_fill_3 (by exact pX) rfl rfl ?_
  refine g_astore2 (q := 7) C dX5_fill_6 (by first | exact hRef_r _ | exact hRef_o _ | exact hRef_n) (by first | rfl | exact hNw_rf _) rfl ?_
  refine g_aload_n (q := 8) C dX5_fill_7 rfl (by first | exact hRef_r _ | exact hRef_o _ | exact hRef_n) rfl ?_
  refine g_alenR (q := 9) C dX5_fill_8 (hOa0) rfl ?_
  refine g_istore3 (q := 10) C dX5_fill_9 (by first | rfl | exact hNw_rf _) rfl ?_
  refine g_iconst (q := 11) (0) C dX5_fill_10 (by decide) rfl ?_
  refine g_istore4 (q := 13) C dX5_fill_11 (by first | rfl | exact hNw_rf _) rfl ?_
  refine h_loopU (P := fun i => ∀ (M3 : hM) (B3 : Nat → hB) (G3 : Nat → Int32) (gi : Int32) (bd3 : Nat → Option Nat) (o5 o6 o7 o8 : Option Value), smO Γ M3 oa (sO S) ob (sW S) (sM S) (sD S) G3 → smL Γ M3 la rx bd3 → smB Γ M3 bd3 B3 → (B3, G3, gi) = (flR (fun i => some (sW S i)) (sM S) (sD S) (sG S) (sB S) i) → gOk (sO S) (sM S) G3 → (∀ k, k < 40 → ∀ j, (B3 k).1 = some j → j < sN S) → hKp noFi M M3 → hG Γ k9 _ _ M3 0 0 13 [some (.ref x), some (.int gi), some (.ref oa), some (.int (nI (sO S))), some (.int (nI i)), o5, o6, o7, o8] []) (N := sO S) (fun i hi ih => ?_) 0 (Nat.zero_le _) M (sB S) (sG S) 0 bd _ _ _ _ pO pL pB flR_0 hg0 hI.inv.lt hKp.rf
  intro M3 B3 G3 gi bd3 o5 o6 o7 o8 hO3 hL3 hB3 hb3 hg3 hB3j hk3
  refine g_iload (q := 15) C dX5_fill_13 rfl rfl ?_
  refine g_iload_n (q := 16) C dX5_fill_15 rfl rfl ?_
  refine g_icmp_ge (t := 118) (q := 19) C dX5_fill_16 (by decide) rfl (fun c_16 => ?_) (fun c_16 => ?_)
  · skip
    have hN := nI_ge_eq hi (by omega) c_16
    subst hN
    have hSx : (sFill S).2 = (S.1, (sO S, sW S, sM S, sD S, G3), B3, S.2.2.2) := by unfold sFill; rw [← hb3]
    have hgf := givn_f S
    have hg1 : (sFill S).1 = gi := by unfold sFill; rw [← hb3]
    rw [hSx, hg1] at hgf
    have hx3 : M3 x = some (true, oSim (sDay S) (sWin S) (givn S) (some ha) (some oa) (some la)) := hk3 _ _ _ pX rfl
    have kx : hKp noSx M3 (hU M3 x (oSim (sDay S) (sWin S) (givn S + gi) (some ha) (some oa) (some la))) := hKp.rf.put hx3 rfl
    have hx9 : hU M3 x (oSim (sDay S) (sWin S) (givn S + gi) (some ha) (some oa) (some la)) x = some (true, oSim (sDay S) (sWin S) (givn (S.1, (sO S, sW S, sM S, sD S, G3), B3, S.2.2.2)) (some ha) (some oa) (some la)) := by
      rw [hgf]
      exact hU_s _ _ _
    refine g_aload_n (q := 119) C dX5_fill_118 rfl (by first | exact hRef_r _ | exact hRef_o _ | exact hRef_n) rfl ?_
    refine g_dup (q := 120) C dX5_fill_119 rfl rfl ?_
    refine g_get (q := 123) C hcl_X5 2 (by decide) qw_639 rfl dX5_fill_120 (by exact hx3) rfl rfl ?_
    refine g_iload_n (q := 124) C dX5_fill_123 rfl rfl ?_
    refine g_iadd (q := 125) C dX5_fill_124 rfl ?_
    refine g_put (q := 128) C hcl_X5 2 (by decide) qw_639 rfl rfl rfl rfl dX5_fill_125 (by exact hx3) (Nat.le_of_ble_eq_true rfl) rfl ?_
    (try rw [hU_2])
    refine g_iload_n (q := 129) C dX5_fill_128 rfl rfl ?_
    exact g_iret C dX5_fill_129 (by rw [hSx, hg1]; exact ⟨rfl, ⟨ha, oa, la, ob, rx, bd3, hx9, (pH.kp hk3 (noFi_s hn6) rfl).kp kx rfl rfl, hO3.kp kx rfl rfl, hL3.kp kx rfl rfl, hB3.kp kx rfl⟩, fun a w e h hp => kx _ _ _ (hk3 _ _ _ h (noSim_noFi _ hp)) (noSim_noSx _ hp)⟩) (Nat.zero_le _) (Nat.zero_le _)
  · skip
    have hlt := nI_nge_lt hi (by omega) c_16
    obtain ⟨of3, oa3, ob3, oc3⟩ := id hO3
    obtain ⟨mn, g3, hm9, hgm3, em, eg⟩ := hg3 i hlt
    refine g_aload_n (q := 20) C dX5_fill_19 rfl (by first | exact hRef_r _ | exact hRef_o _ | exact hRef_n) rfl ?_
    refine g_iload (q := 22) C dX5_fill_20 rfl rfl ?_
    refine g_aaldR (q := 23) C i rfl hlt (by omega) dX5_fill_22 (oa3) (congrArg va_rf (ob3 i hlt).1) rfl ?_
    refine g_astore5 (q := 25) C dX5_fill_23 (by first | exact hRef_r _ | exact hRef_o _ | exact hRef_n) (by first | rfl | exact hNw_rf _) rfl ?_
    refine g_bipush (q := 27) (39) C dX5_fill_25 (by decide) rfl ?_
    refine g_istore6 (q := 29) C dX5_fill_27 (by first | rfl | exact hNw_rf _) rfl ?_
    rw [show (39 : Int32) = atV 0 by decide]
    refine h_loopU (P := fun u => ∀ (M4 : hM) (bd4 : Nat → Option Nat) (o7 o8 : Option Value) (g4 : Nat) (sm : Int32), sm = gi + (gvR (some (sW S i)) (sM S i) (sD S i) (G3 i) B3 u).2.2 → smO Γ M4 oa (sO S) ob (sW S) (sM S) (sD S) (fUp G3 i (gvR (some (sW S i)) (sM S i) (sD S i) (G3 i) B3 u).2.1) → smL Γ M4 la rx bd4 → smB Γ M4 bd4 (gvR (some (sW S i)) (sM S i) (sD S i) (G3 i) B3 u).1 → (gvR (some (sW S i)) (sM S i) (sD S i) (G3 i) B3 u).2.1 = nI g4 → g4 ≤ mn → hKp noFi M M4 → hG Γ k9 _ _ M4 0 0 29 [some (.ref x), some (.int sm), some (.ref oa), some (.int (nI (sO S))), some (.int (nI i)), some (.ref (ob i)), some (.int (atV u)), o7, o8] []) (N := 40) (fun u hu ihu => ?_) 0 (Nat.zero_le _) M3 bd3 _ _ g3 gi (Int32.add_zero gi).symm (by rw [show (gvR (some (sW S i)) (sM S i) (sD S i) (G3 i) B3 0) = (B3, G3 i, 0) from rfl, fUp_k]; exact hO3) hL3 hB3 eg hgm3 hk3
    intro M4 bd4 o7b o8b g4 sm hsm hO4 hL4 hB4 hg4 hgm hk4
    refine g_iload (q := 31) C dX5_fill_29 rfl rfl ?_
    refine g_if_lt (t := 112) (q := 34) C dX5_fill_31 (by decide) rfl (fun c_31 => ?_) (fun c_31 => ?_)
    · skip
      have hN2 := atV_neg hu c_31
      subst hN2
      refine g_iinc4 (q := 115) (1) C dX5_fill_112 (by decide) (by first | rfl | exact hNw_rf _) rfl ?_
      refine g_goto (t := 13) C dX5_fill_115 (by decide) ?_
      rw [nI_1, hsm]
      have hfl := flR_s (W := fun i => some (sW S i)) (Mn := sM S) (Dr := sD S) (G := sG S) (B := sB S) hb3
      refine ih hlt M4 _ _ _ bd4 (some (.ref (ob i))) _ _ _ hO4 hL4 hB4 hfl.symm ?_ (fun k9 hk9 j hj => gvR_1 hB3j 40 k9 hk9 j hj) hk4
      rw [hg4]; exact hg3.up hm9 hgm em
    · skip
      have hltu := atV_pos hu c_31
      obtain ⟨lf, pLf, pRow⟩ := hL4.row
      have ht9 : 4 - u / 8 < 5 := by omega
      have hh9 : u % 8 < 8 := by omega
      have ixT_e : ixT u = (4 - u / 8) * 8 + u % 8 := rfl
      have hix : ixT u < 40 := ixT_lt hltu
      obtain ⟨hr1, rf, hr2, hr3⟩ := pRow _ ht9
      obtain ⟨of4, oa4, ob4, oc4⟩ := id hO4
      obtain ⟨eo, f, hf, q0, q1, q2, q3⟩ := ob4 i hlt
      rw [fUp_s] at q3
      have hi2 := hlt
      obtain ⟨fb, hfb1, hfb2⟩ := hB4.ff hix
      have hB4j : ∀ k9, k9 < 40 → ∀ j, ((gvR (some (sW S i)) (sM S i) (sD S i) (G3 i) B3 u).1 k9).1 = some j → j < sN S := fun k9 hk9 j hj => gvR_1 hB3j u k9 hk9 j hj
      have hfit := hB4.fit hix hfb2 (fun j hj => by have := hB4j _ hix j hj; omega) (show sW S i < 6 by have := (hI.2.2.2.2 i hlt).1; omega) (dr := f 2) q0
      rw [q2] at hfit
      refine g_iload (q := 36) C dX5_fill_34 rfl rfl ?_
      refine g_bipush (q := 38) (8) C dX5_fill_36 (by decide) rfl ?_
      refine g_idiv (q := 39) C dX5_fill_38 (by decide) rfl ?_
      refine g_istore7 (q := 41) C dX5_fill_39 (by first | rfl | exact hNw_rf _) rfl ?_
      refine g_bipush (q := 43) (7) C dX5_fill_41 (by decide) rfl ?_
      refine g_iload (q := 45) C dX5_fill_43 rfl rfl ?_
      refine g_bipush (q := 47) (8) C dX5_fill_45 (by decide) rfl ?_
      refine g_irem (q := 48) C dX5_fill_47 (by decide) rfl ?_
      refine g_isub (q := 49) C dX5_fill_48 rfl ?_
      refine g_istore8 (q := 51) C dX5_fill_49 (by first | rfl | exact hNw_rf _) rfl ?_
      rw [atV_rem hltu, atV_div hltu]
      refine g_aload (q := 53) C dX5_fill_51 rfl (by first | exact hRef_r _ | exact hRef_o _ | exact hRef_n) rfl ?_
      refine g_iconst (q := 54) (3) C dX5_fill_53 (by decide) rfl ?_
      refine g_iald (q := 55) C 3 rfl (by omega) (by omega) dX5_fill_54 (hf) rfl ?_
      refine g_aload (q := 57) C dX5_fill_55 rfl (by first | exact hRef_r _ | exact hRef_o _ | exact hRef_n) rfl ?_
      refine g_iconst (q := 58) (1) C dX5_fill_57 (by decide) rfl ?_
      refine g_iald (q := 59) C 1 rfl (by omega) (by omega) dX5_fill_58 (hf) rfl ?_
      refine g_icmp_eq (t := 106) (q := 62) C dX5_fill_59 (by decide) rfl (fun c_59 => ?_) (fun c_59 => ?_)
      · skip
        refine g_iinc6 (q := 109) (-1) C dX5_fill_106 (by decide) (by first | rfl | exact hNw_rf _) rfl ?_
        refine g_goto (t := 29) C dX5_fill_109 (by decide) ?_
        rw [atV_s hltu]
        have hst : gvR (some (sW S i)) (sM S i) (sD S i) (G3 i) B3 (u + 1) = gvR (some (sW S i)) (sM S i) (sD S i) (G3 i) B3 u := (gvR_s (oh := some (sW S i)) (many := sM S i) (wet := sD S i) (got := G3 i) (B := B3) (t := u)).trans (gvS_n (Or.inl (fun z => Int32.ne_of_lt z (q3.symm.trans (c_59.trans q1)))))
        have hgo := ihu hltu M4 bd4 (some (.int (nI (4 - u / 8)))) (some (.int (nI (u % 8)))) g4 sm
        rw [hst] at hgo
        exact hgo hsm hO4 hL4 hB4 hg4 hgm hk4
      · skip
        have hg5 : g4 < mn := by
          rw [q3, q1, hg4, em] at c_59
          have : g4 ≠ mn := fun z => c_59 (by rw [z])
          omega
        have hlg : (gvR (some (sW S i)) (sM S i) (sD S i) (G3 i) B3 u).2.1 < sM S i := by rw [hg4, em]; exact nI_lt hg5 (by omega)
        have px4 : M4 x = some (true, oSim (sDay S) (sWin S) (givn S) (some ha) (some oa) (some la)) := hk4 _ _ _ pX rfl
        refine g_aload_n (q := 63) C dX5_fill_62 rfl (by first | exact hRef_r _ | exact hRef_o _ | exact hRef_n) rfl ?_
        refine g_aload_n (q := 64) C dX5_fill_63 rfl (by first | exact hRef_r _ | exact hRef_o _ | exact hRef_n) rfl ?_
        refine g_get (q := 67) C hcl_X5 5 (by decide) qw_644 rfl dX5_fill_64 (by exact px4) rfl rfl ?_
        refine g_iload (q := 69) C dX5_fill_67 rfl rfl ?_
        refine g_aaldRR (q := 70) C (4 - u / 8) rfl ht9 (by decide) dX5_fill_69 (pLf) hr1 rfl ?_
        refine g_iload (q := 72) C dX5_fill_70 rfl rfl ?_
        refine g_aaldR (q := 73) C (u % 8) rfl hh9 (by omega) dX5_fill_72 (hr2) (congrArg va_rf (hr3 _ hh9)) rfl ?_
        refine g_aload (q := 75) C dX5_fill_73 rfl (by first | exact hRef_r _ | exact hRef_o _ | exact hRef_n) rfl ?_
        refine g_callV2P (q := 78) C hy_X5_fits (c_X5_fits Γ l (x := x) (o := bd4 ((4 - u / 8) * 8 + u % 8)) hfb1 hf) qw_482 (by exact px4) rfl ⟨Nat.le_of_ble_eq_true rfl, Nat.le_of_ble_eq_true rfl⟩ (Nat.le_of_ble_eq_true rfl) rfl dX5_fill_75 ⟨rfl, rfl⟩ ⟨Nat.zero_le _, Nat.zero_le _⟩ rfl ?_
        rw [show ((bd4 ((4 - u / 8) * 8 + u % 8)).isSome && (decide (fb 0 = f 0) && (decide ((fb 1 + fb 2) / 2 ≤ f 2) && decide (fb 4 = 0)))) = bFit ((gvR (some (sW S i)) (sM S i) (sD S i) (G3 i) B3 u).1 (ixT u)) (some (sW S i)) (sD S i) by rw [q2]; exact hfit]
        refine g_ifB_ne (t := 84) (q := 81) C dX5_fill_78 (by decide) rfl (fun c_78 => ?_) (fun c_78 => ?_)
        · skip
          refine g_aload_n (q := 85) C dX5_fill_84 rfl (by first | exact hRef_r _ | exact hRef_o _ | exact hRef_n) rfl ?_
          refine g_get (q := 88) C hcl_X5 5 (by decide) qw_644 rfl dX5_fill_85 (by exact px4) rfl rfl ?_
          refine g_iload (q := 90) C dX5_fill_88 rfl rfl ?_
          refine g_aaldRR (q := 91) C (4 - u / 8) rfl ht9 (by decide) dX5_fill_90 (pLf) hr1 rfl ?_
          refine g_iload (q := 93) C dX5_fill_91 rfl rfl ?_
          refine g_null (q := 94) C dX5_fill_93 rfl ?_
          refine g_aastRN (q := 95) C (u % 8) rfl hh9 (by decide) dX5_fill_94 (hr2) rfl ?_
          have hr8 : hKp noR8 M4 (hU M4 (rx (4 - u / 8)) (aR Γ 8 (va_up rf (u % 8) none))) := hKp.rf.put hr2 rfl
          have hf5 := hr8 _ _ _ hf rfl
          have hO5 := hO4.kp hr8 (noR8_s ho6) rfl
          have hL5 := hL4.put ht9 hh9 hr3 none
          have hB5 := hB4.kp hr8 rfl
          have hk6 : hKp noFi M (hU (hU M4 (rx (4 - u / 8)) (aR Γ 8 (va_up rf (u % 8) none))) (ob i) (aI Γ 4 (upd f 3 (f 3 + 1)))) := fun a w e h hp => (hKp.rf.put hf5 rfl : hKp noO4 _ _) _ _ _ (hr8 _ _ _ (hk4 _ _ _ h hp) (noFi_8 _ hp)) (noFi_4 _ hp)
          refine g_aload (q := 97) C dX5_fill_95 rfl (by first | exact hRef_r _ | exact hRef_o _ | exact hRef_n) rfl ?_
          refine g_iconst (q := 98) (3) C dX5_fill_97 (by decide) rfl ?_
          refine g_dup2 (q := 99) C dX5_fill_98 rfl rfl rfl ?_
          refine g_iald (q := 100) C 3 rfl (by decide) (by decide) dX5_fill_99 (hf5) rfl ?_
          refine g_iconst (q := 101) (1) C dX5_fill_100 (by decide) rfl ?_
          refine g_iadd (q := 102) C dX5_fill_101 rfl ?_
          refine g_iast (q := 103) C 3 rfl (by decide) (by decide) dX5_fill_102 (hf5) rfl ?_
          refine g_iinc1 (q := 106) (1) C dX5_fill_103 (by decide) (by first | rfl | exact hNw_rf _) rfl ?_
          refine g_iinc6 (q := 109) (-1) C dX5_fill_106 (by decide) (by first | rfl | exact hNw_rf _) rfl ?_
          refine g_goto (t := 29) C dX5_fill_109 (by decide) ?_
          rw [atV_s hltu]
          have hst : gvR (some (sW S i)) (sM S i) (sD S i) (G3 i) B3 (u + 1) = (fUp (gvR (some (sW S i)) (sM S i) (sD S i) (G3 i) B3 u).1 (ixT u) (none, 0, 0, 0, 0), (gvR (some (sW S i)) (sM S i) (sD S i) (G3 i) B3 u).2.1 + 1, (gvR (some (sW S i)) (sM S i) (sD S i) (G3 i) B3 u).2.2 + 1) := (gvR_s (oh := some (sW S i)) (many := sM S i) (wet := sD S i) (got := G3 i) (B := B3) (t := u)).trans (gvS_y hlg c_78)
          refine ihu hltu _ (fUp bd4 (ixT u) none) _ _ (g4 + 1) _ (by rw [hst, hsm, Int32.add_assoc]) ?_ ?_ ?_ (by rw [hst, ← nI_1]; rw [hg4]) (by omega) ?_
          · rw [hst]
            have z := hO5.put hi2 (f := upd f 3 (f 3 + 1)) (x := (gvR (some (sW S i)) (sM S i) (sD S i) (G3 i) B3 u).2.1 + 1) (by rw [pk_un (by decide)]; exact q0) (by rw [pk_un (by decide)]; exact q1) (by rw [pk_un (by decide)]; exact q2) (by rw [pk_us, q3])
            rw [fUp_fUp] at z
            exact z
          · rw [ixT_e]
            exact hL5.kp (hKp.rf.put hf5 rfl : hKp noO4 _ _) rfl rfl
          · rw [hst]
            exact (hB5.clr (ixT u) rfl).kp (hKp.rf.put hf5 rfl : hKp noO4 _ _) rfl
          · exact hk6
        · skip
          refine g_goto (t := 106) C dX5_fill_81 (by decide) ?_
          refine g_iinc6 (q := 109) (-1) C dX5_fill_106 (by decide) (by first | rfl | exact hNw_rf _) rfl ?_
          refine g_goto (t := 29) C dX5_fill_109 (by decide) ?_
          rw [atV_s hltu]
          have hst : gvR (some (sW S i)) (sM S i) (sD S i) (G3 i) B3 (u + 1) = gvR (some (sW S i)) (sM S i) (sD S i) (G3 i) B3 u := (gvR_s (oh := some (sW S i)) (many := sM S i) (wet := sD S i) (got := G3 i) (B := B3) (t := u)).trans (gvS_n (Or.inr c_78))
          have hgo := ihu hltu M4 bd4 (some (.int (nI (4 - u / 8)))) (some (.int (nI (u % 8)))) g4 sm
          rw [hst] at hgo
          exact hgo hsm hO4 hL4 hB4 hg4 hgm hk4
