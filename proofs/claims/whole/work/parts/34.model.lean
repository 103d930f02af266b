/-! ===== the reference's picture ===== -/
def stV (G : Nat → Nat → Int32) (o : Nat) (B : Nat → hB) : Prop := ∀ i, i < 40 → G o i = enc (B i).1 ∧ ((B i).1 ≠ none → (G (o + 1) i, G (o + 2) i, G (o + 3) i, G (o + 4) i) = (B i).2)
abbrev givn (S : hS) : Int32 := hIt (fun i s => s + sG S i) 0 (sO S)
def mdQ (Γ : hGam) (M : hM) (m : Nat) (th : Int32) (S : hS) (s ah od : Nat) (ad : Nat → Nat) (G : Nat → Nat → Int32) (d1 d2 : Int32) : Prop :=
  M m = some (true, oModel th (sWin S) (nI (sN S)) (some (ad 15)) (some (ad 16)) (nI (sO S)) (some (ad 17)) (some (ad 18)) (some (ad 19)) (some (ad 20)) (givn S) (some s) (some ah) (some od)) ∧ mdA Γ M ad G ∧
  M s = some (true, oSt ad 0 (sDay S)) ∧ M ah = some (true, oSt ad 5 d1) ∧ M od = some (true, oSt ad 10 d2) ∧ (s ≠ ah ∧ s ≠ od ∧ ah ≠ od) ∧
  (∀ i, i < sN S → G 15 i = sE S i ∧ G 16 i = sL S i) ∧ ((∀ i, i < sO S → G 17 i = nI (sW S i) ∧ G 18 i = sM S i ∧ G 19 i = sD S i ∧ G 20 i = sG S i) ∧ ∀ i, sO S ≤ i → G 20 i = 0) ∧ stV G 0 (sB S)
def mdP (Γ : hGam) (M : hM) (m : Nat) (th : Int32) (S : hS) : Prop := ∃ (s ah od : Nat) (ad : Nat → Nat) (G : Nat → Nat → Int32) (d1 d2 : Int32), mdQ Γ M m th S s ah od ad G d1 d2
theorem dec_enc {o : Option Nat} (h : ∀ j, o = some j → j < 2 ^ 31) : dec (enc o) = o := by
  cases o with
  | none => rfl
  | some j => exact dec_s (h j rfl)
theorem stV.rel {G : Nat → Nat → Int32} {o n : Nat} {B : Nat → hB} (h : stV G o B) (hB : ∀ i, i < 40 → ∀ j, (B i).1 = some j → j < n) (hn : n ≤ 6) : RelV id (vG G o) B := fun i hi => by
  refine ⟨?_, fun q => (h i hi).2 q⟩
  show dec (G o i) = _
  rw [(h i hi).1, dec_enc (fun j q => by have := hB i hi j q; omega)]
  cases (B i).1 <;> rfl
theorem stV.code {G : Nat → Nat → Int32} {o n : Nat} {B : Nat → hB} (h : stV G o B) (hB : ∀ i, i < 40 → ∀ j, (B i).1 = some j → j < n) (hn : n ≤ 6) {i j : Nat} (hi : i < 40) (hj : j < n) : (G o i = nI j) ↔ (B i).1 = some j := by
  rw [(h i hi).1]
  constructor
  · intro q
    cases hb : (B i).1 with
    | none => rw [hb] at q; exact absurd q.symm (nI_m1 (by omega))
    | some k =>
      rw [hb] at q
      have := hB i hi k hb
      rw [(nI_eq (a := k) (b := j) (by omega) (by omega)).mp q]
  · intro q; rw [q]; rfl
theorem le_m1A : (List.range 7).all (fun n => decide (n = 0 ∨ nI n - 1 = nI (n - 1))) = true := by decide +kernel
theorem nI0e : nI 0 = 0 := rfl
theorem nI0m : nI 0 - 1 = -1 := by decide +kernel
theorem m1lt : (-1 : Int32) < 0 := by decide +kernel
theorem isH_l0 {j : Nat} (hj : j < 2147483648) : ¬ nI j < 0 := Int32.not_lt.mpr (nI_pos' (n := j) hj)
theorem isH_l1 {j n : Nat} (hj : j < 2147483648) (h0 : n = 0) : (nI j ≤ nI n - 1) ↔ (nI j < nI n) := by
  subst h0
  rw [nI0m, nI0e]
  exact ⟨fun z => absurd (Int32.lt_of_le_of_lt z m1lt) (isH_l0 hj), fun z => absurd z (isH_l0 hj)⟩
theorem isH_l2 {j n : Nat} (hj : j < 2147483648) (hn : n ≤ 6) (h0 : 0 < n) : (nI j ≤ nI n - 1) ↔ (nI j < nI n) := by
  have e := of_decide_eq_true (List.all_eq_true.mp le_m1A n (List.mem_range.mpr (by omega)))
  rw [e.resolve_left (by omega)]
  have l2 := nI_ltI (a := j) (b := n) hj (by omega)
  constructor
  · intro z
    rcases Nat.lt_or_ge j n with q | q
    · exact l2.mpr q
    · exact absurd (nI_lt (show n - 1 < j by omega) hj) (Int32.not_lt.mpr z)
  · intro z
    have q := l2.mp z
    exact nI_le (show j ≤ n - 1 by omega) (by omega)
theorem isH_md {S : hS} (hn : sN S ≤ 6) (h : Int32) : (decide (0 ≤ h) && decide (h ≤ nI (sN S) - 1)) = isH S h := by
  unfold isH
  by_cases h0 : 0 ≤ h
  · obtain ⟨j, hj, rfl⟩ := nI_of (Int32.not_lt.mpr h0)
    have key : (nI j ≤ nI (sN S) - 1) ↔ (nI j < nI (sN S)) := by
      rcases Nat.eq_zero_or_pos (sN S) with q | q
      · exact isH_l1 hj q
      · exact isH_l2 hj hn q
    rw [decide_eq_decide.mpr key]
  · rw [decide_eq_false h0, Bool.false_and, Bool.false_and]
theorem isO_md {S : hS} (hn : sO S ≤ 6) (h : Int32) : (decide (0 ≤ h) && decide (h ≤ nI (sO S) - 1)) = (decide (0 ≤ h) && decide (h < nI (sO S))) := isH_md (S := ((sO S, sE S, sL S), S.2)) hn h
theorem fits_md {G : Nat → Nat → Int32} {n : Nat} {B : Nat → hB} (h : stV G 0 B) (hB : ∀ i, i < 40 → ∀ j, (B i).1 = some j → j < n) (hn : n ≤ 6) {i j : Nat} {wet : Int32} (hi : i < 40) (hj : j < n) : bFit (B i) (some j) wet = (decide (G 0 i = nI j) && (decide (bWet (vG G 0 i) ≤ wet) && decide (G 4 i = 0))) := by
  unfold bFit
  by_cases e : (B i).1 = some j
  · have e2 := (h i hi).2 (by rw [e]; simp)
    rw [decide_eq_true ((h.code hB hn hi hj).mpr e), decide_eq_true e, e, ← e2]
    rfl
  · rw [decide_eq_false (fun q => e ((h.code hB hn hi hj).mp q)), decide_eq_false e]; simp
theorem hit9 {G : Nat → Nat → Int32} {n : Nat} {B : Nat → hB} (h : stV G 0 B) (hB : ∀ i, i < 40 → ∀ j, (B i).1 = some j → j < n) (hn : n ≤ 6) {i j : Nat} (hi : i < 40) (hj : j < n) (e : ¬ G 0 i = nI j) (s : Int32) : fCntO B (some j) i s = s ∧ fBadO B (some j) i s = s ∧ fLst B (some j) i s = s := by
  have e1 : ((B i).1.isSome && decide ((B i).1 = some j)) = false := by rw [decide_eq_false (fun q => e ((h.code hB hn hi hj).mpr q)), Bool.and_false]
  unfold fCntO fBadO fLst
  rw [e1]
  simp
theorem hit8 {G : Nat → Nat → Int32} {n : Nat} {B : Nat → hB} (h : stV G 0 B) (hB : ∀ i, i < 40 → ∀ j, (B i).1 = some j → j < n) (hn : n ≤ 6) {i j : Nat} (hi : i < 40) (hj : j < n) (e : G 0 i = nI j) (s : Int32) : fCntO B (some j) i s = s + 1 ∧ fBadO B (some j) i s = (if 0 < G 4 i then s + 1 else s) ∧ fLst B (some j) i s = (if 0 < G 4 i then s else if s < 0 then bWet (vG G 0 i) else if s ≤ bWet (vG G 0 i) then s else bWet (vG G 0 i)) := by
  have e0 := (h.code hB hn hi hj).mp e
  have e1 : ((B i).1.isSome && decide ((B i).1 = some j)) = true := by rw [e0]; simp
  have e2 := (h i hi).2 (by rw [e0]; simp)
  have e3 : (B i).1.isSome = true := by rw [e0]; rfl
  unfold fCntO fBadO fLst
  rw [e1, e3, ← e2]
  refine ⟨by simp, ?_, ?_⟩
  · show (if true = true then (if (true && decide (0 < G 4 i)) = true then s + 1 else s) else s) = _
    simp
  · show (if true = true then (if (true && decide (0 < G 4 i)) = true then s else _) else s) = _
    by_cases e9 : 0 < G 4 i
    · simp [e9]
    · simp [e9]; rfl
section hRows8
variable {Γ : hGam} {l : Launch} {k : hCtx} {own nm : String} {cc : ByteArray} {nL : Nat} {ret : Option FieldType} {rm : Room} {A : Nat → Prop} {Q : State → Prop} {M : hM} {n z pc : Nat} {L : List (Option Value)} {st : List Value}
variable {Cn ref : String} {T : u_T} {N ci index a : Nat} {ty : Nat → FieldType} {w : Bool} {fs : List Value} {v : Value}
theorem g_putN {q : Nat} {host : String} (C : hC Γ l k own nm cc nL ret rm A) (K : hCls ci Cn T N ty) (j : Nat) (hj : j < N) (hlink : Cond.fieldLinkNest own index ref (T j).2.1 (T j).2.2.1 host ∈ hNest) (hsame : (T j).1 = ref) (hfin : (T j).2.2.2 = false) (hn : narrow (ty j) v = v) (hfit : fits (ty j) v = true) (d : decode cc pc = .ok (.putfield index, 3)) (hM : M a = some (true, .inr (ci, fs))) (hl : j < fs.length) (hq : pc + 3 = q) (kk : hG Γ k A Q (hU M a (.inr (ci, fs.set j v))) n z q L st) : hG Γ k A Q M n z pc L (v :: .ref a :: st) := by
  subst hq
  intro H locs ls h1 h2 h3 h4
  obtain ⟨hin, hty, hnm, hc⟩ := K
  have hap := va_apart (own := own) (D := Γ.1) (cl := vwCl) C.ts hin ty hty hnm C.hk hc
  obtain ⟨r, g1, cell, q1, q2, q3, q4⟩ := h1.tr hM
  have hr : r = (Cn, T, N) := Option.some.inj (g1.symm.trans hc)
  subst hr
  obtain ⟨hS, hfc, kC9, hkC, hkind⟩ := C.hk.1 ci _ hc
  obtain ⟨cf, kf, fi, f, hi, hsl⟩ := hS j hj
  have hlay := C.ts _ (hin _ (u_in_lay hj))
  unfold u_lay at hlay
  rw [if_neg (by rw [hfin]; decide)] at hlay
  have hst := (u_facts hfc hkC (u_lays C.ts hin hj) hi).1
  have h6 := u_store hfc hkC hkind hlay hi (hty j hj) hn hfit
  refine va_WputK C.ex C.cd (f := f) C.ow (va_Nw.use rfl (C.hx.2.2.2.2.1 _ hlink)) (by rw [← hsame]; exact hi) hst (by rw [q2]; exact h6) q1 q3 (by rw [hsl]; exact k2_hasslot (q4 j hj)) rfl rfl d fun H' e1 e2 e3 => ?_
  rw [hsl] at e1 ⊢
  refine kk H' _ ls (h1.put ⟨_, hc, t_OB.to (V := updV (vp_V fs) j v) ⟨_, e1, q2, q3, t_set q4 hap hj v⟩ (fun i _ => vp_updV_set hl v i)⟩ e3) (h2.put (h2 a _ hM)) (h3.put e2 e3 (h2 a _ hM)) h4
end hRows8
theorem enc_hn {o : Option Nat} (h : o.isSome = true) : enc o = hnO o := by
  cases o with
  | none => cases h
  | some j => rfl
theorem RelV.wes {hb : Nat → Nat} {V B : Nat → hB} (h : RelV hb V B) {i : Nat} (hi : i < 40) (ht : (B i).1.isSome = true) : wets V i = wets B i := by
  unfold wets; rw [h.nbWe hi ht, h.naWe hi ht]
theorem wet_nn {S : hS} (hI : sInv S) {i : Nat} (hi : i < 40) (ht : (sB S i).1.isSome = true) : 0 ≤ bWet (sB S i) := by
  cases hb1 : (sB S i).1 with
  | none => rw [hb1] at ht; cases ht
  | some j =>
    obtain ⟨-, f1, f2, b1, b2⟩ := hI.2.2.1 i hi j hb1
    obtain ⟨u, hu, eu⟩ := nI_of2 (M := 100) (n := 100) rfl (Int32.not_lt.mpr f1) f2
    obtain ⟨v, hv, ev⟩ := nI_of2 (M := 100) (n := 100) rfl (Int32.not_lt.mpr b1) b2
    unfold bWet
    rw [eu, ev, nI_add, half_nI (by omega)]
    exact nI_pos' (n := (u + v) / 2) (by omega)
theorem inR_8 {w : Int32} (hv : inR 0 8 w = true) (h0 : ¬ w = 0) (h1 : ¬ w = 1) (h2 : ¬ w = 2) (h3 : ¬ w = 3) (h4 : ¬ w = 4) (h5 : ¬ w = 5) (h6 : ¬ w = 6) (h7 : ¬ w = 7) : w = 8 := by
  by_cases h8 : w = 8
  · exact h8
  · rw [inR_no8 h0 h1 h2 h3 h4 h5 h6 h7 h8] at hv; cases hv
theorem inR_lt2 {w : Int32} (hv : inR 0 4 w = true) (h : ¬ 2 ≤ w) (h0 : ¬ w = 0) : w = 1 := by
  obtain ⟨j, hj, rfl⟩ := inR_nI hv (by decide) (N := 4) rfl
  match j, hj with
  | 0, _ => exact absurd rfl h0
  | 1, _ => rfl
  | 2, _ => exact absurd (by decide) h
  | 3, _ => exact absurd (by decide) h
  | 4, _ => exact absurd (by decide) h
  | n + 5, h => omega
theorem min9 {x y : Int32} : (if y < x then y else x) = if x ≤ y then x else y := by
  by_cases h : x ≤ y
  · rw [if_pos h, if_neg (Int32.not_lt.mpr h)]
  · rw [if_neg h, if_pos (Int32.not_le.mp h)]
