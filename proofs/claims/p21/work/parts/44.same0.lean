/-! ===== what is the same: the simulation against the loft ===== -/
theorem sTold_8 {S : hS} {t h w : Nat} (hs : t < 5) (hh : h < 8) (hw : w < 8) : sTold S (nI t) (nI h) (nI w) = (0, tellI (sB S) (t * 8 + h) (nI w)) := by
  have h1 : inR 0 7 (nI w) = true := inR_nIt (N := 7) (by omega) (by decide)
  have h2 := isHk_ok hs hh
  simp [sTold, h1, h2, ixOf_ok hs hh]
theorem tell_n {B : Nat → hB} {i : Nat} (h : (B i).1 = none) (w : Int32) : tellI B i w = -1 := by
  unfold tellI bTel
  rw [h]
  rfl
theorem tell_s {B : Nat → hB} {i j : Nat} (h : (B i).1 = some j) : tellI B i 0 = nI j ∧ tellI B i 1 = (B i).2.1 ∧ tellI B i 2 = (B i).2.2.1 ∧ tellI B i 3 = bWet (B i) ∧ tellI B i 4 = (B i).2.2.2.1 ∧ tellI B i 5 = (B i).2.2.2.2 ∧ tellI B i 6 = nbrs B i ∧ tellI B i 7 = wets B i := by
  unfold tellI bTel
  rw [h]
  simp [hnO]
/-- eight ints, laid one behind another -/
abbrev up8 (v0 v1 v2 v3 v4 v5 v6 v7 : Int32) : Nat → Int32 := upd (upd (upd (upd (upd (upd (upd (upd (fun _ => 0) 0 v0) 1 v1) 2 v2) 3 v3) 4 v4) 5 v5) 6 v6) 7 v7
theorem up8_v (v0 v1 v2 v3 v4 v5 v6 v7 : Int32) : up8 v0 v1 v2 v3 v4 v5 v6 v7 0 = v0 ∧ up8 v0 v1 v2 v3 v4 v5 v6 v7 1 = v1 ∧ up8 v0 v1 v2 v3 v4 v5 v6 v7 2 = v2 ∧ up8 v0 v1 v2 v3 v4 v5 v6 v7 3 = v3 ∧ up8 v0 v1 v2 v3 v4 v5 v6 v7 4 = v4 ∧ up8 v0 v1 v2 v3 v4 v5 v6 v7 5 = v5 ∧ up8 v0 v1 v2 v3 v4 v5 v6 v7 6 = v6 ∧ up8 v0 v1 v2 v3 v4 v5 v6 v7 7 = v7 := by
  simp [up8, upd]
theorem due_n {B : Nat → hB} {i : Nat} {f : Nat → Int32} (h : (B i).1 = none) (hf : f = up8 (-1) (-1) (-1) (-1) (-1) (-1) (-1) (-1)) : ∀ w, w < 8 → f w = tellI B i (nI w) := fun w hw => by
  rw [tell_n h, hf]
  obtain ⟨h0, h1, h2, h3, h4, h5, h6, h7⟩ := up8_v (-1) (-1) (-1) (-1) (-1) (-1) (-1) (-1)
  match w, hw with
  | 0, _ => exact h0
  | 1, _ => exact h1
  | 2, _ => exact h2
  | 3, _ => exact h3
  | 4, _ => exact h4
  | 5, _ => exact h5
  | 6, _ => exact h6
  | 7, _ => exact h7
  | n + 8, h => omega
theorem due_s {B : Nat → hB} {i j : Nat} {f : Nat → Int32} {v0 v1 v2 v3 v4 v5 v6 v7 : Int32} (h : (B i).1 = some j) (hf : f = up8 v0 v1 v2 v3 v4 v5 v6 v7) (e0 : v0 = nI j) (e1 : v1 = (B i).2.1) (e2 : v2 = (B i).2.2.1) (e3 : v3 = bWet (B i)) (e4 : v4 = (B i).2.2.2.1) (e5 : v5 = (B i).2.2.2.2) (e6 : v6 = nbrs B i) (e7 : v7 = wets B i) : ∀ w, w < 8 → f w = tellI B i (nI w) := fun w hw => by
  rw [hf]
  obtain ⟨h0, h1, h2, h3, h4, h5, h6, h7⟩ := up8_v v0 v1 v2 v3 v4 v5 v6 v7
  obtain ⟨t0, t1, t2, t3, t4, t5, t6, t7⟩ := tell_s h
  match w, hw with
  | 0, _ => exact h0.trans (e0.trans t0.symm)
  | 1, _ => exact h1.trans (e1.trans t1.symm)
  | 2, _ => exact h2.trans (e2.trans t2.symm)
  | 3, _ => exact h3.trans (e3.trans t3.symm)
  | 4, _ => exact h4.trans (e4.trans t4.symm)
  | 5, _ => exact h5.trans (e5.trans t5.symm)
  | 6, _ => exact h6.trans (e6.trans t6.symm)
  | 7, _ => exact h7.trans (e7.trans t7.symm)
  | n + 8, h => omega
theorem aI_ne_aR {Γ : hGam} {n m : Nat} {f : Nat → Int32} {g : Nat → Option Nat} (q : aI Γ n f = aR Γ m g) : False := nomatch (Prod.mk.inj (Prod.mk.inj (Sum.inl.inj q)).2).2
theorem ne_IR {Γ : hGam} {M : hM} {a b n m : Nat} {w1 w2 : Bool} {f : Nat → Int32} {g : Nat → Option Nat} (h1 : M a = some (w1, aI Γ n f)) (h2 : M b = some (w2, aR Γ m g)) : b ≠ a := fun q => by
  rw [q, h1] at h2
  exact aI_ne_aR (Prod.mk.inj (Option.some.inj h2)).2
/-- the memory of isSame behind its first counts: M0 the map it began with -/
def isS (Γ : hGam) (M0 M : hM) (S : hS) (b1 b3 b4 : Nat) (sf : Nat → Int32) (g : Nat → Option Nat) (ar : Nat → Nat) (F : Nat → Nat → Int32) (ff : Nat → Int32) : Prop :=
  hKp (fun _ => true) M0 M ∧ M b1 = some (true, aI Γ 3 sf) ∧ M b3 = some (true, aR Γ (sN S) g) ∧ (∀ c, c < sN S → g c = some (ar c)) ∧ (∀ c, c < sN S → M (ar c) = some (true, aI Γ 5 (F c))) ∧ (∀ c, c < sN S → M0 (ar c) = none) ∧ hbI ar (sN S) ∧ M b4 = some (true, aI Γ (sO S) ff) ∧ M0 b4 = none ∧ (∀ c, c < sN S → ar c ≠ b4) ∧ b1 ≠ b4
def isV (S : hS) (F : Nat → Nat → Int32) (ff : Nat → Int32) (i : Nat) : Prop :=
  (∀ c, c < sN S → F c 0 = sE S c ∧ F c 1 = sL S c ∧ F c 2 = hIt (fCntO (sB S) (some c)) 0 i ∧ F c 3 = hIt (fBadO (sB S) (some c)) 0 i ∧ F c 4 = hIt (fLst (sB S) (some c)) (-1) i) ∧ ∀ o, o < sO S → ff o = hIt (fFit (sB S) (some (sW S o)) (sD S o)) 0 i
theorem isS.new {Γ : hGam} {M0 M : hM} {S : hS} {b1 b3 b4 : Nat} {sf : Nat → Int32} {g : Nat → Option Nat} {ar : Nat → Nat} {F : Nat → Nat → Int32} {ff : Nat → Int32} (h : isS Γ M0 M S b1 b3 b4 sf g ar F ff) {d : Nat} {e : va_E} (hd : M d = none) : isS Γ M0 (hU M d e) S b1 b3 b4 sf g ar F ff := by
  obtain ⟨h1, h2, h3, h4, h5, h6, h7, h8, h9, h10, h11⟩ := h
  have k : ∀ {a : Nat} {x : hE}, M a = some x → hU M d e a = some x := fun {a x} z => (hU_n (fun q => by rw [q, hd] at z; cases z)).trans z
  exact ⟨h1.new hd, k h2, k h3, h4, fun c hc => k (h5 c hc), h6, h7, k h8, h9, h10, h11⟩
theorem isS.fit {Γ : hGam} {M0 M : hM} {S : hS} {b1 b3 b4 : Nat} {sf : Nat → Int32} {g : Nat → Option Nat} {ar : Nat → Nat} {F : Nat → Nat → Int32} {ff : Nat → Int32} (h : isS Γ M0 M S b1 b3 b4 sf g ar F ff) (f2 : Nat → Int32) : isS Γ M0 (hU M b4 (aI Γ (sO S) f2)) S b1 b3 b4 sf g ar F f2 := by
  obtain ⟨h1, h2, h3, h4, h5, h6, h7, h8, h9, h10, h11⟩ := h
  have n3 : b3 ≠ b4 := ne_IR h8 h3
  exact ⟨h1.old h9, (hU_n h11).trans h2, (hU_n n3).trans h3, h4, fun c hc => (hU_n (h10 c hc)).trans (h5 c hc), h6, h7, hU_s _ _ _, h9, h10, h11⟩
theorem isS.row {Γ : hGam} {M0 M : hM} {S : hS} {b1 b3 b4 : Nat} {sf : Nat → Int32} {g : Nat → Option Nat} {ar : Nat → Nat} {F : Nat → Nat → Int32} {ff : Nat → Int32} (h : isS Γ M0 M S b1 b3 b4 sf g ar F ff) {c : Nat} (hc : c < sN S) (f2 : Nat → Int32) : isS Γ M0 (hU M (ar c) (aI Γ 5 f2)) S b1 b3 b4 sf g ar (fUp F c f2) ff := by
  obtain ⟨h1, h2, h3, h4, h5, h6, h7, h8, h9, h10, h11⟩ := h
  have n3 : b3 ≠ ar c := ne_IR (h5 c hc) h3
  have n1 : b1 ≠ ar c := fun q => by have z := h5 c hc; rw [← q, h2] at z; cases z
  refine ⟨h1.old (h6 c hc), (hU_n n1).trans h2, (hU_n n3).trans h3, h4, fun c2 hc2 => ?_, h6, h7, (hU_n (Ne.symm (h10 c hc))).trans h8, h9, h10, h11⟩
  by_cases q : c2 = c
  · subst q; rw [fUp_s]; exact hU_s _ _ _
  · rw [fUp_n q]; exact (hU_n (fun z => q (h7 c2 c hc2 hc z))).trans (h5 c2 hc2)
/-! steps of the counts by herb and by order -/
theorem ohN {B : Nat → hB} {i c : Nat} (h : (B i).1 = none) (s : Int32) : fCntO B (some c) i s = s ∧ fBadO B (some c) i s = s ∧ fLst B (some c) i s = s := by
  unfold fCntO fBadO fLst
  rw [h]
  simp
theorem ohO {B : Nat → hB} {i j c : Nat} (h : (B i).1 = some j) (hne : c ≠ j) (s : Int32) : fCntO B (some c) i s = s ∧ fBadO B (some c) i s = s ∧ fLst B (some c) i s = s := by
  unfold fCntO fBadO fLst
  rw [h]
  have : ¬ (some j = some c) := fun q => hne (Option.some.inj q).symm
  simp [Ne.symm hne]
theorem ohC {B : Nat → hB} {i j : Nat} (h : (B i).1 = some j) (s : Int32) : fCntO B (some j) i s = s + 1 := by
  unfold fCntO
  rw [h]
  simp
theorem ohB {B : Nat → hB} {i j : Nat} (h : (B i).1 = some j) (s : Int32) : fBadO B (some j) i s = if 0 < (B i).2.2.2.2 then s + 1 else s := by
  unfold fBadO
  rw [h]
  simp
theorem ohL {B : Nat → hB} {i j : Nat} (h : (B i).1 = some j) (s : Int32) : fLst B (some j) i s = if 0 < (B i).2.2.2.2 then s else if s < 0 then bWet (B i) else if s ≤ bWet (B i) then s else bWet (B i) := by
  unfold fLst bWet
  rw [h]
  simp
theorem isV.none {S : hS} {F : Nat → Nat → Int32} {ff f2 : Nat → Int32} {i : Nat} (h : isV S F ff i) (hn : (sB S i).1 = none) (hf : ∀ o, o < sO S → f2 o = fFit (sB S) (some (sW S o)) (sD S o) i (ff o)) : isV S F f2 (i + 1) :=
  ⟨fun c hc => by
    obtain ⟨h0, h1, h2, h3, h4⟩ := h.1 c hc
    exact ⟨h0, h1, h2.trans (ohN hn _).1.symm, h3.trans (ohN hn _).2.1.symm, h4.trans (ohN hn _).2.2.symm⟩, fun o ho => (hf o ho).trans (by rw [h.2 o ho]; rfl)⟩
theorem isV.some {S : hS} {F : Nat → Nat → Int32} {ff f2 fr : Nat → Int32} {i j : Nat} (h : isV S F ff i) (hn : (sB S i).1 = some j) (hj : j < sN S) (hf : ∀ o, o < sO S → f2 o = fFit (sB S) (some (sW S o)) (sD S o) i (ff o)) (q0 : fr 0 = F j 0) (q1 : fr 1 = F j 1) (q2 : fr 2 = F j 2 + 1) (q3 : fr 3 = if 0 < (sB S i).2.2.2.2 then F j 3 + 1 else F j 3) (q4 : fr 4 = if 0 < (sB S i).2.2.2.2 then F j 4 else if F j 4 < 0 then bWet (sB S i) else if F j 4 ≤ bWet (sB S i) then F j 4 else bWet (sB S i)) : isV S (fUp F j fr) f2 (i + 1) := by
  refine ⟨fun c hc => ?_, fun o ho => (hf o ho).trans (by rw [h.2 o ho]; rfl)⟩
  by_cases e : c = j
  · subst e
    rw [fUp_s]
    obtain ⟨h0, h1, h2, h3, h4⟩ := h.1 c hc
    refine ⟨q0.trans h0, q1.trans h1, ?_, ?_, ?_⟩
    · rw [q2, h2]; exact (ohC hn _).symm
    · rw [q3, h3]; exact (ohB hn _).symm
    · rw [q4, h4]; exact (ohL hn _).symm
  · rw [fUp_n e]
    obtain ⟨h0, h1, h2, h3, h4⟩ := h.1 c hc
    exact ⟨h0, h1, h2.trans (ohO hn e _).1.symm, h3.trans (ohO hn e _).2.1.symm, h4.trans (ohO hn e _).2.2.symm⟩
theorem isV_ab {S : hS} {F : Nat → Nat → Int32} {ff : Nat → Int32} (h : isV S F ff 40) {c w : Nat} (hc : c < sN S) (hw : w < 5) : F c w = abI S c (nI w) := by
  obtain ⟨h0, h1, h2, h3, h4⟩ := h.1 c hc
  match w, hw with
  | 0, _ => exact h0.trans abI_0.symm
  | 1, _ => exact h1.trans abI_1.symm
  | 2, _ => exact h2.trans abI_2.symm
  | 3, _ => exact h3.trans abI_3.symm
  | 4, _ => exact h4.trans abI_4.symm
  | n + 5, h => omega
theorem ord_as {S : hS} {o w : Nat} {f : Nat → Int32} (h0 : f 0 = nI (sW S o)) (h1 : f 1 = sM S o) (h2 : f 2 = sD S o) (h3 : f 3 = sG S o) (hw : w < 4) : f w = asI S o (nI w) := by
  match w, hw with
  | 0, _ => exact h0.trans asI_0.symm
  | 1, _ => exact h1.trans asI_1.symm
  | 2, _ => exact h2.trans asI_2.symm
  | 3, _ => exact h3.trans asI_3.symm
  | n + 4, h => omega
theorem isV_as {S : hS} {F : Nat → Nat → Int32} {ff : Nat → Int32} (h : isV S F ff 40) {o : Nat} (ho : o < sO S) : ff o = asI S o (nI 4) := (h.2 o ho).trans asI_4.symm
/-- nine counts -/
abbrev up9 (v0 v1 v2 v3 v4 v5 v6 v7 v8 : Int32) : Nat → Int32 := upd (up8 v0 v1 v2 v3 v4 v5 v6 v7) 8 v8
theorem cnt_v {S : hS} {f : Nat → Int32} {v0 v1 v2 v3 v4 v5 v6 v7 v8 : Int32} (hf : f = up9 v0 v1 v2 v3 v4 v5 v6 v7 v8) (e0 : v0 = cnI S 0) (e1 : v1 = cnI S 1) (e2 : v2 = cnI S 2) (e3 : v3 = cnI S 3) (e4 : v4 = cnI S 4) (e5 : v5 = cnI S 5) (e6 : v6 = cnI S 6) (e7 : v7 = cnI S 7) (e8 : v8 = cnI S 8) : ∀ w, w < 9 → f w = cnI S (nI w) := fun w hw => by
  rw [hf]
  obtain ⟨h0, h1, h2, h3, h4, h5, h6, h7⟩ := up8_v v0 v1 v2 v3 v4 v5 v6 v7
  match w, hw with
  | 0, _ => exact (pk_un (by decide)).trans (h0.trans e0)
  | 1, _ => exact (pk_un (by decide)).trans (h1.trans e1)
  | 2, _ => exact (pk_un (by decide)).trans (h2.trans e2)
  | 3, _ => exact (pk_un (by decide)).trans (h3.trans e3)
  | 4, _ => exact (pk_un (by decide)).trans (h4.trans e4)
  | 5, _ => exact (pk_un (by decide)).trans (h5.trans e5)
  | 6, _ => exact (pk_un (by decide)).trans (h6.trans e6)
  | 7, _ => exact (pk_un (by decide)).trans (h7.trans e7)
  | 8, _ => exact pk_us.trans e8
  | n + 9, h => omega
/-- five of a herb -/
abbrev up5 (v0 v1 v2 v3 v4 : Int32) : Nat → Int32 := upd (upd (upd (upd (upd (fun _ => 0) 0 v0) 1 v1) 2 v2) 3 v3) 4 v4
theorem up5_v (v0 v1 v2 v3 v4 : Int32) : up5 v0 v1 v2 v3 v4 0 = v0 ∧ up5 v0 v1 v2 v3 v4 1 = v1 ∧ up5 v0 v1 v2 v3 v4 2 = v2 ∧ up5 v0 v1 v2 v3 v4 3 = v3 ∧ up5 v0 v1 v2 v3 v4 4 = v4 := by simp [up5, upd]
