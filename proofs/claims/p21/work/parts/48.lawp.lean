/-! ===== the law's own words, as numbers ===== -/
theorem lgc (x : Int64) : lg_cmp x x = 0 := by simp [lg_cmp]
theorem dv8 {i : Nat} (h : i < 40) : nI i / 8 = nI (i / 8) := pk_div (by omega) (by decide) (by decide)
theorem rm8 {i : Nat} (h : i < 40) : nI i - nI i / 8 * 8 = nI (i % 8) := pk_rem (by omega) (by decide) (by decide)
theorem sTold_i {S : hS} {i w : Nat} (hi : i < 40) (hw : w < 8) : sTold S (nI (i / 8)) (nI (i % 8)) (nI w) = (0, tellI (sB S) i (nI w)) := by
  rw [sTold_8 (by omega) (by omega) hw, show i / 8 * 8 + i % 8 = i by omega]
theorem sTold_n {S : hS} {i w : Nat} (hi : i < 40) (h7 : i % 8 < 7) (hw : w < 8) : sTold S (nI (i / 8)) (nI (i % 8) + 1) (nI w) = (0, tellI (sB S) (i + 1) (nI w)) := by
  rw [nI_1, sTold_8 (by omega) (by omega) hw, show i / 8 * 8 + (i % 8 + 1) = i + 1 by omega]
theorem nbW_T {B : Nat → hB} {i : Nat} (h : nbW B i = true) : nbT B i = true := by
  unfold nbW at h
  unfold nbT
  simp only [Bool.and_eq_true] at h ⊢
  exact ⟨h.1, h.2.1⟩
theorem naW_T {B : Nat → hB} {i : Nat} (h : naW B i = true) : naT B i = true := by
  unfold naW at h
  unfold naT
  simp only [Bool.and_eq_true] at h ⊢
  exact ⟨h.1, h.2.1⟩
theorem nw_nI (B : Nat → hB) (i : Nat) : ∃ p q : Nat, p ≤ 2 ∧ q ≤ p ∧ nbrs B i = nI p ∧ wets B i = nI q := by
  have h1 := nbW_T (B := B) (i := i)
  have h2 := naW_T (B := B) (i := i)
  unfold nbrs wets
  generalize nbT B i = a at h1 ⊢
  generalize naT B i = b at h2 ⊢
  generalize nbW B i = c at h1 ⊢
  generalize naW B i = d at h2 ⊢
  cases a <;> cases b <;> cases c <;> cases d <;> first | exact absurd (h1 rfl) (by decide) | exact absurd (h2 rfl) (by decide) | exact ⟨0, 0, by decide, by decide, by decide, by decide⟩ | exact ⟨1, 0, by decide, by decide, by decide, by decide⟩ | exact ⟨1, 1, by decide, by decide, by decide, by decide⟩ | exact ⟨2, 0, by decide, by decide, by decide, by decide⟩ | exact ⟨2, 1, by decide, by decide, by decide, by decide⟩ | exact ⟨2, 2, by decide, by decide, by decide, by decide⟩
theorem rowF {S : hS} {D i j : Nat} {T : Nat → Int32} (hI : sI2 S D) (hi : i < 40) (hj : (sB S i).1 = some j) (hT : ∀ w, w < 8 → T w = tellI (sB S) i (nI w)) : T 0 = nI j ∧ j < sN S ∧ ∃ u v w m p q : Nat, u ≤ 100 ∧ v ≤ 100 ∧ w ≤ D ∧ m ≤ 9 ∧ p ≤ 2 ∧ q ≤ p ∧ T 1 = nI u ∧ T 2 = nI v ∧ T 3 = (nI u + nI v) / 2 ∧ T 4 = nI w ∧ T 5 = nI m ∧ T 6 = nI p ∧ T 7 = nI q ∧ sB S i = (some j, nI u, nI v, nI w, nI m) ∧ nbrs (sB S) i = nI p ∧ wets (sB S) i = nI q := by
  obtain ⟨t0, t1, t2, t3, t4, t5, t6, t7⟩ := tell_s hj
  obtain ⟨p, q, hp, hq, ep, eq⟩ := nw_nI (sB S) i
  obtain ⟨hjn, u, v, w, m, q1, q2, q3, q4, q5⟩ := (hI.2.2.2.1 i hi).tk hj
  have e3 : bWet (sB S i) = (nI u + nI v) / 2 := by rw [q5]; rfl
  exact ⟨(hT 0 (by decide)).trans t0, hjn, u, v, w, m, p, q, q1, q2, q3, q4, hp, hq, (hT 1 (by decide)).trans (t1.trans (by rw [q5])), (hT 2 (by decide)).trans (t2.trans (by rw [q5])), (hT 3 (by decide)).trans (t3.trans e3), (hT 4 (by decide)).trans (t4.trans (by rw [q5])), (hT 5 (by decide)).trans (t5.trans (by rw [q5])), (hT 6 (by decide)).trans (t6.trans ep), (hT 7 (by decide)).trans (t7.trans eq), q5, ep, eq⟩
theorem row_n {S : hS} {D i : Nat} {T : Nat → Int32} (hI : sI2 S D) (hi : i < 40) (hT : ∀ w, w < 8 → T w = tellI (sB S) i (nI w)) : (T 0 < 0 → (sB S i).1 = none) ∧ (¬ T 0 < 0 → (sB S i).1.isSome = true) := by
  cases e : (sB S i).1 with
  | none => exact ⟨fun _ => rfl, fun q => absurd (by rw [hT 0 (by decide), tell_n e]; decide) q⟩
  | some j =>
    obtain ⟨h0, hj, -⟩ := rowF hI hi e hT
    exact ⟨fun q => absurd q (by rw [h0]; exact nI_pos (by have := hI.1.1; omega)), fun _ => rfl⟩
theorem sideF {B : Nat → hB} {i : Nat} (h7 : i % 8 < 7) (hj : (B i).1.isSome = true) (h6 : nbrs B i = 1) (hj2 : (B (i + 1)).1.isSome = true) (h62 : nbrs B (i + 1) = 1) : ¬ 1 < wets B i + wets B (i + 1) := by
  have e1 : naT B i = true := by
    unfold naT bTak
    rw [hj2, decide_eq_true (show i % 8 ≠ 7 by omega)]; rfl
  have e2 : nbT B (i + 1) = true := by
    unfold nbT bTak
    rw [show i + 1 - 1 = i by omega, hj, decide_eq_true (show (i + 1) % 8 ≠ 0 by omega)]; rfl
  have f1 : nbW B i = false := by
    cases q : nbW B i with
    | false => rfl
    | true => unfold nbrs at h6; rw [nbW_T q, e1] at h6; exact absurd h6 (by decide)
  have f2 : naW B (i + 1) = false := by
    cases q : naW B (i + 1) with
    | false => rfl
    | true => unfold nbrs at h62; rw [naW_T q, e2] at h62; exact absurd h62 (by decide)
  unfold wets
  rw [f1, f2]
  cases q1 : naW B i <;> cases q2 : nbW B (i + 1)
  · decide
  · decide
  · decide
  · unfold naW at q1
    unfold nbW at q2
    simp only [Bool.and_eq_true, decide_eq_true_eq] at q1 q2
    rw [show i + 1 - 1 = i by omega] at q2
    exact absurd (Int32.lt_trans q1.2.2 q2.2.2) Int32.lt_irrefl
theorem sideG {S : hS} {D i : Nat} {T : Nat → Int32} {x y : Int32} (hI : sI2 S D) (hi : i < 40) (h7 : i % 8 < 7) (hj : (sB S i).1.isSome = true) (hT : ∀ w, w < 8 → T w = tellI (sB S) i (nI w)) (h6 : T 6 = 1) (hx : x = tellI (sB S) (i + 1) (nI 6)) (hx1 : x = 1) (hy : y = tellI (sB S) (i + 1) (nI 7)) : ¬ 1 < T 7 + y := by
  obtain ⟨j, ej⟩ := Option.isSome_iff_exists.mp hj
  obtain ⟨-, -, -, -, -, -, t6, t7⟩ := tell_s ej
  cases e : (sB S (i + 1)).1 with
  | none => rw [hx, tell_n e] at hx1; exact absurd hx1 (by decide)
  | some j2 =>
    obtain ⟨-, -, -, -, -, -, u6, u7⟩ := tell_s e
    have z6 : nbrs (sB S) i = 1 := t6.symm.trans ((hT 6 (by decide)).symm.trans h6)
    have y6 : nbrs (sB S) (i + 1) = 1 := u6.symm.trans (hx.symm.trans hx1)
    have e7 : T 7 = wets (sB S) i := (hT 7 (by decide)).trans t7
    have ey : y = wets (sB S) (i + 1) := hy.trans u7
    rw [e7, ey]
    exact sideF h7 hj z6 (by rw [e]; rfl) y6
/-! counting -/
def cN (P : hB → Bool) (B : Nat → hB) : Nat → Nat
  | 0 => 0
  | n + 1 => if P (B n) = true then cN P B n + 1 else cN P B n
theorem cN_s (P : hB → Bool) (B : Nat → hB) (n : Nat) : cN P B (n + 1) = if P (B n) = true then cN P B n + 1 else cN P B n := rfl
theorem cN_le (P : hB → Bool) (B : Nat → hB) : ∀ n, cN P B n ≤ n
  | 0 => Nat.le_refl _
  | n + 1 => by
    have := cN_le P B n
    rw [cN_s]
    split <;> omega
theorem hIt_cN {P : hB → Bool} {B : Nat → hB} {f : Nat → Int32 → Int32} (h : ∀ i s, f i s = if P (B i) = true then s + 1 else s) : ∀ n, hIt f 0 n = nI (cN P B n)
  | 0 => rfl
  | n + 1 => by
    rw [hIt_s, h, hIt_cN h n, cN_s]
    split
    · rw [nI_1]
    · rfl
def pTk (b : hB) : Bool := b.1.isSome
def pBd (b : hB) : Bool := b.1.isSome && decide (0 < b.2.2.2.2)
def pOf (c : Nat) (b : hB) : Bool := b.1.isSome && decide (b.1 = some c)
def pOb (c : Nat) (b : hB) : Bool := pOf c b && pBd b
theorem cnt_cN (B : Nat → hB) (n : Nat) : hIt (fCnt B) 0 n = nI (cN pTk B n) := hIt_cN (P := pTk) (B := B) (f := fCnt B) (fun _ _ => rfl) n
theorem bad_cN (B : Nat → hB) (n : Nat) : hIt (fBad B) 0 n = nI (cN pBd B n) := hIt_cN (P := pBd) (B := B) (f := fBad B) (fun _ _ => rfl) n
theorem fit_cN (B : Nat → hB) (o : Option Nat) (w : Int32) (n : Nat) : hIt (fFit B o w) 0 n = nI (cN (fun b => bFit b o w) B n) := hIt_cN (P := fun b => bFit b o w) (B := B) (f := fFit B o w) (fun _ _ => rfl) n
theorem cntO_cN (B : Nat → hB) (c n : Nat) : hIt (fCntO B (some c)) 0 n = nI (cN (pOf c) B n) := hIt_cN (P := pOf c) (B := B) (f := fCntO B (some c)) (fun _ _ => rfl) n
theorem badO_cN (B : Nat → hB) (c n : Nat) : hIt (fBadO B (some c)) 0 n = nI (cN (pOb c) B n) := hIt_cN (P := pOb c) (B := B) (f := fBadO B (some c)) (fun i s => by
  show (if pOf c (B i) = true then (if pBd (B i) = true then s + 1 else s) else s) = if (pOf c (B i) && pBd (B i)) = true then s + 1 else s
  cases pOf c (B i) <;> cases pBd (B i) <;> simp) n
theorem cN_mono {P Q : hB → Bool} {B B1 : Nat → hB} : ∀ n, (∀ i, i < n → P (B i) = true → Q (B1 i) = true) → cN P B n ≤ cN Q B1 n
  | 0, _ => Nat.le_refl _
  | n + 1, h => by
    have ih := cN_mono n (fun i hi => h i (by omega))
    rw [cN_s, cN_s]
    by_cases e : P (B n) = true
    · rw [if_pos e, if_pos (h n (by omega) e)]; omega
    · rw [if_neg e]
      split <;> omega
theorem cN_cg {P : hB → Bool} {B B1 : Nat → hB} {n : Nat} (h : ∀ i, i < n → B i = B1 i) : cN P B n = cN P B1 n :=
  Nat.le_antisymm (cN_mono n (fun i hi q => by rw [← h i hi]; exact q)) (cN_mono n (fun i hi q => by rw [h i hi]; exact q))
theorem cN_add {P Q R : hB → Bool} {B : Nat → hB} (h : ∀ b, (P b = true → R b = true ∧ Q b = false) ∧ (Q b = true → R b = true)) : ∀ n, cN P B n + cN Q B n ≤ cN R B n
  | 0 => Nat.le_refl _
  | n + 1 => by
    have ih := cN_add h n (B := B)
    rw [cN_s, cN_s, cN_s]
    obtain ⟨h1, h2⟩ := h (B n)
    by_cases e : P (B n) = true
    · rw [if_pos e, if_pos (h1 e).1, (h1 e).2, if_neg (by decide)]; omega
    · rw [if_neg e]
      by_cases e2 : Q (B n) = true
      · rw [if_pos e2, if_pos (h2 e2)]; omega
      · rw [if_neg e2]
        split <;> omega
theorem cN_up {P : hB → Bool} {B : Nat → hB} {k : Nat} {b : hB} (h1 : P (B k) = true) (h2 : P b = false) : ∀ n, k < n → cN P (fUp B k b) n + 1 = cN P B n
  | 0, h => absurd h (Nat.not_lt_zero _)
  | n + 1, h => by
    rw [cN_s, cN_s]
    by_cases e : k = n
    · subst e
      rw [fUp_s, h2, if_neg (by decide), if_pos h1, cN_cg (B1 := B) (fun i hi => fUp_n (by omega))]
    · have ih := cN_up h1 h2 n (by omega)
      rw [fUp_n (fun q => e q.symm)]
      split <;> omega
theorem cN_0 {P : hB → Bool} {B : Nat → hB} : ∀ n, (∀ i, i < n → P (B i) = false) → cN P B n = 0
  | 0, _ => rfl
  | n + 1, h => by
    rw [cN_s, h n (by omega), if_neg (by decide)]
    exact cN_0 n (fun i hi => h i (by omega))
/-! by herb -/
theorem sum_0 : ∀ n, sumG (fun _ => 0) n = 0
  | 0 => rfl
  | n + 1 => by rw [sum_s, sum_0 n]; rfl
theorem sum_hc {B : Nat → hB} {n : Nat} (hB : ∀ i, i < 40 → ∀ j, (B i).1 = some j → j < n) : ∀ m, m ≤ 40 → sumG (fun h => hIt (fCntO B (some h)) 0 m) n = hIt (fCnt B) 0 m
  | 0, _ => sum_0 n
  | m + 1, hm => by
    have ih := sum_hc hB m (by omega)
    cases e : (B m).1 with
    | none =>
      rw [cnt_n (by rw [e]; rfl), ← ih]
      exact sum_cg (fun h _ => (ohN e _).1)
    | some j =>
      rw [cnt_y (by rw [e]; rfl), ← ih, ← sum_up n (hB m (by omega) j e)]
      refine sum_cg (fun h _ => ?_)
      by_cases q : h = j
      · subst q; rw [fUp_s]; exact ohC e _
      · rw [fUp_n q]; exact (ohO e q _).1
theorem sum_hd {B : Nat → hB} {n : Nat} (hB : ∀ i, i < 40 → ∀ j, (B i).1 = some j → j < n) : ∀ m, m ≤ 40 → sumG (fun h => hIt (fBadO B (some h)) 0 m) n = hIt (fBad B) 0 m
  | 0, _ => sum_0 n
  | m + 1, hm => by
    have ih := sum_hd hB m (by omega)
    cases e : (B m).1 with
    | none =>
      rw [bad_n (by rw [e]; rfl), ← ih]
      exact sum_cg (fun h _ => (ohN e _).2.1)
    | some j =>
      by_cases z : 0 < (B m).2.2.2.2
      · rw [bad_y (by rw [e]; rfl) z, ← ih, ← sum_up n (hB m (by omega) j e)]
        refine sum_cg (fun h _ => ?_)
        by_cases q : h = j
        · subst q; rw [fUp_s]; exact (ohB e _).trans (if_pos z)
        · rw [fUp_n q]; exact (ohO e q _).2.1
      · rw [bad_0 z, ← ih]
        refine sum_cg (fun h _ => ?_)
        by_cases q : h = j
        · subst q; exact (ohB e _).trans (if_neg z)
        · exact (ohO e q _).2.1
theorem bWet_nI {b : hB} {j u v w m : Nat} (hu : u ≤ 100) (hv : v ≤ 100) (e : b = (some j, nI u, nI v, nI w, nI m)) : bWet b = nI ((u + v) / 2) := by
  rw [e]
  show (nI u + nI v) / 2 = _
  rw [nI_add]
  exact pk_div (by omega) (by decide) (by decide)
theorem lst_iff {B : Nat → hB} {n D c : Nat} (hB : ∀ i, i < 40 → bOk n D (B i)) : ∀ m, m ≤ 40 → ∃ a b : Nat, b ≤ a ∧ a ≤ m ∧ hIt (fCntO B (some c)) 0 m = nI a ∧ hIt (fBadO B (some c)) 0 m = nI b ∧ (b = a ↔ hIt (fLst B (some c)) (-1) m < 0)
  | 0, _ => ⟨0, 0, Nat.le_refl _, Nat.le_refl _, rfl, rfl, (fun _ => (by decide : (-1 : Int32) < 0)), (fun _ => rfl)⟩
  | m + 1, hm => by
    obtain ⟨a, b, h1, h2, h3, h4, h5⟩ := lst_iff hB m (by omega) (c := c)
    rw [hIt_s, hIt_s, hIt_s]
    cases e : (B m).1 with
    | none =>
      rw [(ohN e _).1, (ohN e _).2.1, (ohN e _).2.2]
      exact ⟨a, b, h1, by omega, h3, h4, h5⟩
    | some j =>
      by_cases q : c = j
      · subst q
        obtain ⟨-, u, v, w, mm, q1, q2, q3, q4, q5⟩ := (hB m (by omega)).tk e
        rw [ohC e, ohB e, ohL e, h3, h4, bWet_nI q1 q2 q5]
        by_cases z : 0 < (B m).2.2.2.2
        · rw [if_pos z, if_pos z]
          exact ⟨a + 1, b + 1, by omega, by omega, nI_1 _, nI_1 _, by rw [← h5]; omega⟩
        · rw [if_neg z, if_neg z]
          refine ⟨a + 1, b, by omega, by omega, nI_1 _, rfl, fun q => by omega, fun q => ?_⟩
          exfalso
          revert q
          split
          · exact nI_pos (by omega)
          · rename_i z2
            split
            · exact z2
            · exact nI_pos (by omega)
      · rw [(ohO e q _).1, (ohO e q _).2.1, (ohO e q _).2.2]
        exact ⟨a, b, h1, by omega, h3, h4, h5⟩
theorem abLst {S : hS} {D c : Nat} (hI : sI2 S D) : (abI S c 2 = abI S c 3 ↔ abI S c 4 < 0) := by
  rw [abI_2, abI_3, abI_4]
  obtain ⟨a, b, h1, h2, h3, h4, h5⟩ := lst_iff hI.2.2.2.1 40 (Nat.le_refl _) (c := c)
  rw [h3, h4, ← h5, nI_eq (by omega) (by omega)]
  exact eq_comm
/-! days: what gets no wetter, what gets no less mouldy -/
def bDn (b b1 : hB) : Prop := (b.1 = none ∧ b1.1 = none) ∨ ∃ u v m u1 v1 m1 : Nat, b.1.isSome = true ∧ b1.1.isSome = true ∧ b.2.1 = nI u ∧ b.2.2.1 = nI v ∧ b.2.2.2.2 = nI m ∧ b1.2.1 = nI u1 ∧ b1.2.2.1 = nI v1 ∧ b1.2.2.2.2 = nI m1 ∧ u1 ≤ u ∧ v1 ≤ v ∧ m ≤ m1 ∧ u ≤ 100 ∧ v ≤ 100 ∧ m1 ≤ 9
theorem bDn.rf {n D : Nat} {b : hB} (h : bOk n D b) : bDn b b := by
  rcases h with h | ⟨j, u, v, w, m, h0, h1, h2, h3, h4, h5⟩
  · rw [h]; exact Or.inl ⟨rfl, rfl⟩
  · rw [h5]; exact Or.inr ⟨u, v, m, u, v, m, rfl, rfl, rfl, rfl, rfl, rfl, rfl, rfl, Nat.le_refl _, Nat.le_refl _, Nat.le_refl _, h1, h2, h4⟩
theorem bDn.tr {a b c : hB} (h : bDn a b) (h2 : bDn b c) : bDn a c := by
  rcases h with ⟨p, q⟩ | ⟨u, v, m, u1, v1, m1, p1, p2, p3, p4, p5, p6, p7, p8, p9, p10, p11, p12, p13, p14⟩
  · rcases h2 with ⟨p', q'⟩ | ⟨u, v, m, u1, v1, m1, p1, p2, p3⟩
    · exact Or.inl ⟨p, q'⟩
    · rw [q] at p1; cases p1
  · rcases h2 with ⟨p', q'⟩ | ⟨u2, v2, m2, u3, v3, m3, r1, r2, r3, r4, r5, r6, r7, r8, r9, r10, r11, r12, r13, r14⟩
    · rw [p'] at p2; cases p2
    · have e1 := (nI_eq (a := u1) (b := u2) (by omega) (by omega)).mp (p6.symm.trans r3)
      have e2 := (nI_eq (a := v1) (b := v2) (by omega) (by omega)).mp (p7.symm.trans r4)
      have e3 := (nI_eq (a := m1) (b := m2) (by omega) (by omega)).mp (p8.symm.trans r5)
      exact Or.inr ⟨u, v, m, u3, v3, m3, p1, r2, p3, p4, p5, r6, r7, r8, by omega, by omega, by omega, p12, p13, by omega⟩
/-- a day, in numbers, of one bundle -/
theorem goB {S : hS} {D d i j : Nat} (hI : sI2 S D) (hd : d ≤ 9) (hi : i < 40) (hj : (sB S i).1 = some j) : ∃ u v w m l u1 v1 w1 m1 : Nat, u ≤ 100 ∧ v ≤ 100 ∧ w ≤ D ∧ m ≤ 9 ∧ sB S i = (some j, nI u, nI v, nI w, nI m) ∧ u1 ≤ u ∧ v1 ≤ v ∧ m ≤ m1 ∧ m1 ≤ 9 ∧ sL S j = nI l ∧ sB (sGo S (nI d)) i = (some j, nI u1, nI v1, nI w1, nI m1) ∧ m1 ≤ m + 1 ∧ w1 ≤ D + 1 ∧ (w1 = 0 ∧ ¬ nI l < (nI u1 + nI v1) / 2 ∨ w1 = w + 1 ∧ nI l < (nI u1 + nI v1) / 2) ∧ (m < m1 → 2 < nI w1 ∨ m = 0 ∧ nSp (sB S) i = true) ∧ (m = 0 → nSp (sB S) i = true → 0 < m1) := by
  obtain ⟨wn, hwn, ewn⟩ := hI.2.2.1
  obtain ⟨q0, u, v, w, m, q1, q2, q3, q4, q5⟩ := (hI.2.2.2.1 i hi).tk hj
  obtain ⟨e, l, e1, e2, l1, l2, ee, el⟩ := hI.2.1 j q0
  obtain ⟨qw, hqw, eqw⟩ := wets_nI (sB S) i
  have eB : sB (sGo S (nI d)) i = vDay (sE S) (sL S) (sWin S) (nI d) (sB S) i := rfl
  rw [vDay_at (j := j) hj, ee, el, ewn, dBun_nI (n := sN S) hi e2 hwn hd hqw eqw q1 q2 q5] at eB
  generalize fN e (i / 8) wn d qw = F at eB
  obtain ⟨w1, hw1, ew1, cw⟩ : ∃ w1 : Nat, w1 ≤ D + 1 ∧ dWd (nI l) (nI (u - F)) (nI (v - F / 2)) (nI w) = nI w1 ∧ (w1 = 0 ∧ ¬ nI l < (nI (u - F) + nI (v - F / 2)) / 2 ∨ w1 = w + 1 ∧ nI l < (nI (u - F) + nI (v - F / 2)) / 2) := by
    unfold dWd
    split
    · rename_i z; exact ⟨w + 1, by omega, nI_1 w, Or.inr ⟨rfl, z⟩⟩
    · rename_i z; exact ⟨0, by omega, rfl, Or.inl ⟨rfl, z⟩⟩
  obtain ⟨m2, a1, a2, a3, a4, a5⟩ := dM1_nI (wd := nI w1) q4
  obtain ⟨m3, b1, b2, b3, b4, b5, b6⟩ := dM2_nI (sp := nSp (sB S) i) a2
  rw [ew1, a4, b4] at eB
  refine ⟨u, v, w, m, l, u - F, v - F / 2, w1, m3, q1, q2, q3, q4, q5, by omega, by omega, by omega, b2, el, eB, ?_, hw1, cw, fun q => ?_, fun z1 z2 => ?_⟩
  · rcases Nat.lt_or_ge m2 m3 with z | z
    · have := (b5 z).1; omega
    · omega
  · rcases Nat.lt_or_ge m m2 with z | z
    · exact Or.inl (a5 z)
    · have hz : m2 < m3 := by omega
      exact Or.inr ⟨by have := (b5 hz).1; omega, (b5 hz).2⟩
  · rcases Nat.eq_zero_or_pos m2 with z | z
    · have := b6 z z2; omega
    · omega
theorem goDn {S : hS} {D d : Nat} (hI : sI2 S D) (hd : d ≤ 9) {i : Nat} (hi : i < 40) : bDn (sB S i) (sB (sGo S (nI d)) i) := by
  cases e : (sB S i).1 with
  | none =>
    refine Or.inl ⟨e, ?_⟩
    show (vDay (sE S) (sL S) (sWin S) (nI d) (sB S) i).1 = none
    rw [vDay_no e]; exact e
  | some j =>
    obtain ⟨u, v, w, m, l, u1, v1, w1, m1, h1, h2, h3, h4, h5, h6, h7, h8, h9, h10, h11, -⟩ := goB hI hd hi e
    rw [h5, h11]
    exact Or.inr ⟨u, v, m, u1, v1, m1, rfl, rfl, rfl, rfl, rfl, rfl, rfl, rfl, h6, h7, h8, h1, h2, h9⟩
theorem goNDn {S : hS} {D d : Nat} (hI : sI2 S D) (hd : d ≤ 9) {i : Nat} (hi : i < 40) : ∀ n, bDn (sB S i) (sB (goN S (nI d) n) i)
  | 0 => by rw [goN_0]; exact bDn.rf (hI.2.2.2.1 i hi)
  | n + 1 => by
    rw [← goN_s]
    exact (goNDn hI hd hi n).tr (goDn (hI.goN hd n) hd hi)
theorem sum_dn {B B1 : Nat → hB} (h : ∀ i, i < 40 → bDn (B i) (B1 i)) : ∀ m, m ≤ 40 → ∃ a a1 : Nat, a1 ≤ a ∧ a ≤ 100 * m ∧ hIt (fSum B) 0 m = nI a ∧ hIt (fSum B1) 0 m = nI a1
  | 0, _ => ⟨0, 0, Nat.le_refl _, Nat.le_refl _, rfl, rfl⟩
  | m + 1, hm => by
    obtain ⟨a, a1, h1, h2, h3, h4⟩ := sum_dn h m (by omega)
    rcases h m (by omega) with ⟨p, q⟩ | ⟨u, v, m0, u1, v1, m1, p1, p2, p3, p4, p5, p6, p7, p8, p9, p10, p11, p12, p13, p14⟩
    · rw [sum_n (by rw [p]; rfl), sum_n (by rw [q]; rfl)]
      exact ⟨a, a1, h1, by omega, h3, h4⟩
    · have e1 : bWet (B m) = nI ((u + v) / 2) := by
        show ((B m).2.1 + (B m).2.2.1) / 2 = _
        rw [p3, p4, nI_add]; exact pk_div (by omega) (by decide) (by decide)
      have e2 : bWet (B1 m) = nI ((u1 + v1) / 2) := by
        show ((B1 m).2.1 + (B1 m).2.2.1) / 2 = _
        rw [p6, p7, nI_add]; exact pk_div (by omega) (by decide) (by decide)
      rw [sum_y p1, sum_y p2, h3, h4, e1, e2, nI_add, nI_add]
      exact ⟨_, _, by omega, by omega, rfl, rfl⟩
theorem bad_dn {B B1 : Nat → hB} (h : ∀ i, i < 40 → bDn (B i) (B1 i)) : cN pBd B 40 ≤ cN pBd B1 40 := cN_mono 40 (fun i hi q => by
  unfold pBd at q ⊢
  simp only [Bool.and_eq_true, decide_eq_true_eq] at q ⊢
  rcases h i hi with ⟨p, -⟩ | ⟨u, v, m0, u1, v1, m1, p1, p2, p3, p4, p5, p6, p7, p8, p9, p10, p11, p12, p13, p14⟩
  · rw [p] at q; exact absurd q.1 (by decide)
  · refine ⟨p2, ?_⟩
    rw [p8]
    rw [p5] at q
    have : 0 < m0 := by
      rcases Nat.eq_zero_or_pos m0 with z | z
      · rw [z] at q; exact absurd q.2 (by decide)
      · exact z
    exact nI_lt (a := 0) (by omega) (by omega))
theorem fore_sum {S : hS} {D d n : Nat} (hI : sI2 S D) (hd : d ≤ 9) : ¬ hIt (fSum (sB S)) 0 40 < hIt (fSum (sB (goN S (nI d) n))) 0 40 := by
  obtain ⟨a, a1, h1, h2, h3, h4⟩ := sum_dn (fun i hi => goNDn hI hd hi n) 40 (Nat.le_refl _)
  rw [h3, h4]
  exact Int32.not_lt.mpr (nI_le h1 (by omega))
theorem fore_bad {S : hS} {D d n : Nat} (hI : sI2 S D) (hd : d ≤ 9) : ¬ hIt (fBad (sB (goN S (nI d) n))) 0 40 < hIt (fBad (sB S)) 0 40 := by
  rw [bad_cN, bad_cN]
  exact Int32.not_lt.mpr (nI_le (bad_dn (fun i hi => goNDn hI hd hi n)) (by have := cN_le pBd (sB (goN S (nI d) n)) 40; omega))
theorem vTurn2 (t : Nat) (B : Nat → hB) : vTurn t (vTurn t B) = B := by
  funext i
  show (if i / 8 = t ∧ (vTurn t B i).1.isSome = true then bSwp (vTurn t B i) else vTurn t B i) = B i
  rw [vTurn_1]
  unfold vTurn
  by_cases h : i / 8 = t ∧ (B i).1.isSome = true
  · rw [if_pos h, if_pos h]; rfl
  · rw [if_neg h, if_neg h]
theorem turn2 {S : hS} {t : Nat} (h : t < 5) : hIt (fTurn t (vTurn t (sB S))) 0 40 = hIt (fTurn t (sB S)) 0 40 := by
  rw [tr_40 _ h, tr_40 _ h, tr_8]
theorem mvB_2 {B : Nat → hB} {a b : Nat} (hab : a ≠ b) (hb : B b = emp) : mvB (mvB B a b) b a = B := by
  funext i
  unfold mvB
  by_cases q : i = b
  · subst q; rw [fUp_s, hb]
  · rw [fUp_n q]
    by_cases q2 : i = a
    · subst q2; rw [fUp_s, fUp_n (Ne.symm hab), fUp_s]
    · rw [fUp_n q2, fUp_n q2, fUp_n q]
theorem mvB_b {B : Nat → hB} {a b : Nat} (hab : a ≠ b) : mvB B a b b = B a := by
  unfold mvB
  rw [fUp_n (Ne.symm hab), fUp_s]
theorem mvB_a {B : Nat → hB} {a b : Nat} : mvB B a b a = emp := by
  unfold mvB
  rw [fUp_s]
theorem sMove_i {S : hS} {a b : Nat} (ha : a < 40) (hb : b < 40) (h1 : (sB S a).1.isSome = true) (h2 : (sB S b).1 = none) : sMove S (nI (a / 8)) (nI (a % 8)) (nI (b / 8)) (nI (b % 8)) = (0, nbrs (mvB (sB S) a b) b, setB S (mvB (sB S) a b)) := by
  have ea : a / 8 * 8 + a % 8 = a := by omega
  have eb : b / 8 * 8 + b % 8 = b := by omega
  have := sMove_yes (S := S) (t := a / 8) (h := a % 8) (t2 := b / 8) (h2 := b % 8) (by omega) (by omega) (by omega) (by omega) (by rw [ea]; exact h1) (by rw [eb]; exact h2)
  rw [ea, eb] at this
  exact this
/-! a day against what was told before -/
theorem t5_iff {S : hS} {D i : Nat} (hI : sI2 S D) (hi : i < 40) : (2 < tellI (sB S) i (nI 5)) ↔ (bTak (sB S i) && decide (3 ≤ (sB S i).2.2.2.2)) = true := by
  unfold bTak
  cases e : (sB S i).1 with
  | none => rw [tell_n e]; exact ⟨fun q => absurd q (by decide), fun q => absurd q (by simp)⟩
  | some j =>
    obtain ⟨-, -, -, -, -, t5, -⟩ := tell_s e
    rw [show tellI (sB S) i (nI 5) = (sB S i).2.2.2.2 from t5, lt2_3]
    simp
theorem nSp_l {S : hS} {D i : Nat} (hI : sI2 S D) (hi : i < 40) (h0 : i % 8 ≠ 0) (h : 2 < tellI (sB S) (i - 1) (nI 5)) : nSp (sB S) i = true := by
  have := (t5_iff hI (show i - 1 < 40 by omega)).mp h
  unfold nSp
  rw [this, decide_eq_true h0]; rfl
theorem nSp_r {S : hS} {D i : Nat} (hI : sI2 S D) (hi : i < 40) (h7 : i % 8 < 7) (h : 2 < tellI (sB S) (i + 1) (nI 5)) : nSp (sB S) i = true := by
  have := (t5_iff hI (show i + 1 < 40 by omega)).mp h
  unfold nSp
  rw [this, decide_eq_true (show i % 8 ≠ 7 by omega)]
  simp
theorem nSp_no {S : hS} {D i : Nat} (hI : sI2 S D) (hi : i < 40) (h0 : i % 8 = 0 ∨ ¬ 2 < tellI (sB S) (i - 1) (nI 5)) (h7 : i % 8 = 7 ∨ ¬ 2 < tellI (sB S) (i + 1) (nI 5)) : nSp (sB S) i = false := by
  unfold nSp
  have a : (decide (i % 8 ≠ 0) && (bTak (sB S (i - 1)) && decide (3 ≤ (sB S (i - 1)).2.2.2.2))) = false := by
    rcases h0 with q | q
    · rw [decide_eq_false (fun z => z q)]; rfl
    · rw [t5_iff hI (show i - 1 < 40 by omega)] at q
      rw [Bool.eq_false_iff.mpr q, Bool.and_false]
  have b : (decide (i % 8 ≠ 7) && (bTak (sB S (i + 1)) && decide (3 ≤ (sB S (i + 1)).2.2.2.2))) = false := by
    by_cases z : i % 8 = 7
    · rw [decide_eq_false (fun z2 => z2 z)]; rfl
    · rcases h7 with q | q
      · exact absurd q z
      · rw [t5_iff hI (show i + 1 < 40 by omega)] at q
        rw [Bool.eq_false_iff.mpr q, Bool.and_false]
  rw [a, b]; rfl
theorem rowG {S : hS} {D d i j : Nat} {T N : Nat → Int32} (hI : sI2 S D) (hD : D < 1000000) (hd : d ≤ 9) (hi : i < 40) (hj : (sB S i).1 = some j) (hT : ∀ w, w < 8 → T w = tellI (sB S) i (nI w)) (hN : ∀ w, w < 6 → N w = tellI (sB (sGo S (nI d))) i (nI w)) :
    N 0 = T 0 ∧ ¬ T 1 < N 1 ∧ ¬ T 2 < N 2 ∧ ¬ N 5 < T 5 ∧ ¬ T 5 + 1 < N 5 ∧ (¬ N 4 = 0 → N 4 = T 4 + 1) ∧ (T 5 < N 5 → N 4 < 3 → T 5 = 0 ∧ nSp (sB S) i = true) ∧ (T 5 = 0 → nSp (sB S) i = true → ¬ N 5 = 0) ∧ (0 < N 4 ↔ sL S j < N 3) := by
  obtain ⟨u, v, w, m, l, u1, v1, w1, m1, h1, h2, h3, h4, h5, h6, h7, h8, h9, h10, h11, h12, h13, h14, h15, h16⟩ := goB hI hd hi hj
  obtain ⟨t0, t1, t2, t3, t4, t5, -⟩ := tell_s hj
  have hj1 : (sB (sGo S (nI d)) i).1 = some j := by rw [h11]
  obtain ⟨n0, n1, n2, n3, n4, n5, -⟩ := tell_s hj1
  have T0 : T 0 = nI j := (hT 0 (by decide)).trans t0
  have T1 : T 1 = nI u := (hT 1 (by decide)).trans (t1.trans (by rw [h5]))
  have T2 : T 2 = nI v := (hT 2 (by decide)).trans (t2.trans (by rw [h5]))
  have T4 : T 4 = nI w := (hT 4 (by decide)).trans (t4.trans (by rw [h5]))
  have T5 : T 5 = nI m := (hT 5 (by decide)).trans (t5.trans (by rw [h5]))
  have N0 : N 0 = nI j := (hN 0 (by decide)).trans n0
  have N1 : N 1 = nI u1 := (hN 1 (by decide)).trans (n1.trans (by rw [h11]))
  have N2 : N 2 = nI v1 := (hN 2 (by decide)).trans (n2.trans (by rw [h11]))
  have N3 : N 3 = (nI u1 + nI v1) / 2 := (hN 3 (by decide)).trans (n3.trans (by rw [h11]; rfl))
  have N4 : N 4 = nI w1 := (hN 4 (by decide)).trans (n4.trans (by rw [h11]))
  have N5 : N 5 = nI m1 := (hN 5 (by decide)).trans (n5.trans (by rw [h11]))
  rw [T0, T1, T2, T4, T5, N0, N1, N2, N3, N4, N5, h10]
  refine ⟨rfl, Int32.not_lt.mpr (nI_le h6 (by omega)), Int32.not_lt.mpr (nI_le h7 (by omega)), Int32.not_lt.mpr (nI_le h8 (by omega)), ?_, fun q => ?_, fun q1 q2 => ?_, fun q1 q2 q3 => ?_, ?_⟩
  · rw [nI_1]; exact Int32.not_lt.mpr (nI_le h12 (by omega))
  · rcases h14 with ⟨z, -⟩ | ⟨z, -⟩
    · rw [z] at q; exact absurd rfl q
    · rw [z, nI_1]
  · have hm : m < m1 := (nI_ltI (by omega) (by omega)).mp q1
    rcases h15 hm with z | ⟨z1, z2⟩
    · exact absurd (Int32.lt_of_lt_of_le q2 ((lt2_3 _).mp z)) (Int32.lt_irrefl)
    · exact ⟨by rw [z1]; rfl, z2⟩
  · have z1 : m = 0 := (nI_eq (a := m) (b := 0) (by omega) (by decide)).mp q1
    have z2 : m1 = 0 := (nI_eq (a := m1) (b := 0) (by omega) (by decide)).mp q3
    have := h16 z1 q2
    omega
  · rcases h14 with ⟨z, z2⟩ | ⟨z, z2⟩
    · rw [z]; exact ⟨fun q => absurd q (by decide), fun q => absurd q z2⟩
    · rw [z]; exact ⟨fun _ => z2, fun _ => nI_lt (a := 0) (by omega) (by omega)⟩
theorem rowG_n {S : hS} {d i : Nat} {N : Nat → Int32} (hj : (sB S i).1 = none) (hN : ∀ w, w < 6 → N w = tellI (sB (sGo S (nI d))) i (nI w)) : N 0 = -1 := by
  rw [hN 0 (by decide), tell_n]
  show (vDay (sE S) (sL S) (sWin S) (nI d) (sB S) i).1 = none
  rw [vDay_no hj]; exact hj
/-! orders -/
theorem fitLe {S : hS} {o : Nat} : ∃ f c b : Nat, hIt (fFit (sB S) (some (sW S o)) (sD S o)) 0 40 = nI f ∧ abI S (sW S o) 2 = nI c ∧ abI S (sW S o) 3 = nI b ∧ f + b ≤ c ∧ c ≤ 40 := by
  rw [abI_2, abI_3]
  refine ⟨_, _, _, fit_cN _ _ _ _, cntO_cN _ _ _, badO_cN _ _ _, cN_add (fun b => ?_) 40, cN_le _ _ _⟩
  unfold bFit pOb pOf pBd
  refine ⟨fun q => ?_, fun q => ?_⟩
  · simp only [Bool.and_eq_true, decide_eq_true_eq] at q
    obtain ⟨⟨q1, q2⟩, q3, q4⟩ := q
    rw [q1, decide_eq_true q2, q4]
    exact ⟨rfl, rfl⟩
  · simp only [Bool.and_eq_true] at q ⊢
    exact q.1
/-! filling -/
theorem gvAll {W m g : Nat} {wet : Int32} {B : Nat → hB} (hm : m ≤ 9) (hg : g ≤ m) : ∀ t, t ≤ 40 → ∃ d : Nat, g + d ≤ m ∧ (gvR (some W) (nI m) wet (nI g) B t).2.2 = nI d ∧ (gvR (some W) (nI m) wet (nI g) B t).2.1 = nI (g + d) ∧ cN (fun b => bFit b (some W) wet) (gvR (some W) (nI m) wet (nI g) B t).1 40 + d = cN (fun b => bFit b (some W) wet) B 40 ∧ cN pTk (gvR (some W) (nI m) wet (nI g) B t).1 40 + d = cN pTk B 40 ∧ (d = 0 → (gvR (some W) (nI m) wet (nI g) B t).1 = B) ∧ ∀ u, u < t → g + d = m ∨ bFit ((gvR (some W) (nI m) wet (nI g) B t).1 (ixT u)) (some W) wet = false
  | 0, _ => ⟨0, by omega, rfl, rfl, rfl, rfl, fun _ => rfl, fun u hu => absurd hu (Nat.not_lt_zero _)⟩
  | t + 1, ht => by
    obtain ⟨d, h1, h2, h3, h4, h5, h6, h7⟩ := gvAll hm hg t (by omega) (W := W) (wet := wet) (B := B)
    rw [gvR_s]
    by_cases c1 : (gvR (some W) (nI m) wet (nI g) B t).2.1 < nI m
    · have hlt : g + d < m := by rw [h3] at c1; exact (nI_ltI (by omega) (by omega)).mp c1
      cases c2 : bFit ((gvR (some W) (nI m) wet (nI g) B t).1 (ixT t)) (some W) wet with
      | true =>
        rw [gvS_y c1 c2]
        have hk : ixT t < 40 := ixT_lt (by omega)
        have e1 := cN_up (P := fun b => bFit b (some W) wet) (b := emp) c2 rfl 40 hk
        have c3 : pTk ((gvR (some W) (nI m) wet (nI g) B t).1 (ixT t)) = true := by
          unfold bFit at c2
          simp only [Bool.and_eq_true] at c2
          exact c2.1.1
        have e2 := cN_up (P := pTk) (b := emp) c3 rfl 40 hk
        refine ⟨d + 1, by omega, ?_, ?_, ?_, ?_, fun q => by omega, fun u hu => Or.inr ?_⟩
        · show (gvR (some W) (nI m) wet (nI g) B t).2.2 + 1 = _
          rw [h2, nI_1]
        · show (gvR (some W) (nI m) wet (nI g) B t).2.1 + 1 = _
          rw [h3, nI_1]; rfl
        · show cN (fun b => bFit b (some W) wet) (fUp (gvR (some W) (nI m) wet (nI g) B t).1 (ixT t) emp) 40 + (d + 1) = _
          omega
        · show cN pTk (fUp (gvR (some W) (nI m) wet (nI g) B t).1 (ixT t) emp) 40 + (d + 1) = _
          omega
        · show bFit (fUp (gvR (some W) (nI m) wet (nI g) B t).1 (ixT t) emp (ixT u)) (some W) wet = false
          by_cases q : ixT u = ixT t
          · rw [q, fUp_s]; rfl
          · rw [fUp_n q]
            have hut : u < t := by
              rcases Nat.lt_or_ge u t with z | z
              · exact z
              · exact absurd (by rw [show u = t by omega]) q
            rcases h7 u hut with z | z
            · omega
            · exact z
      | false =>
        rw [gvS_n (Or.inr c2)]
        refine ⟨d, h1, h2, h3, h4, h5, h6, fun u hu => ?_⟩
        rcases Nat.lt_or_ge u t with z | z
        · exact h7 u z
        · rw [show u = t by omega]; exact Or.inr c2
    · rw [gvS_n (Or.inl c1)]
      refine ⟨d, h1, h2, h3, h4, h5, h6, fun u hu => Or.inl ?_⟩
      rw [h3] at c1
      have h9 : ¬ g + d < m := fun z => c1 (nI_lt (a := g + d) (b := m) z (by omega))
      omega
theorem ixT_all {i : Nat} (h : i < 40) : ∃ u, u < 40 ∧ ixT u = i := ⟨(4 - i / 8) * 8 + i % 8, by omega, by unfold ixT; omega⟩
abbrev lackS (S : hS) (n : Nat) : Int32 := sumG (fun o => sM S o - sG S o) n
abbrev fitS (S : hS) (n : Nat) : Int32 := sumG (fun o => asI S o 4) n
theorem bFit_emp {o : Option Nat} {w : Int32} : bFit emp o w = false := rfl
theorem flAll {S : hS} {D : Nat} (hI : sI2 S D) : ∀ n, n ≤ sO S → ∃ g lk ft : Nat, g ≤ lk ∧ g ≤ ft ∧ lk ≤ 9 * n ∧ ft ≤ 40 * n ∧ lackS S n = nI lk ∧ fitS S n = nI ft ∧ (flR (fun i => some (sW S i)) (sM S) (sD S) (sG S) (sB S) n).2.2 = nI g ∧ cN pTk (flR (fun i => some (sW S i)) (sM S) (sD S) (sG S) (sB S) n).1 40 + g = cN pTk (sB S) 40 ∧ (g = 0 → (flR (fun i => some (sW S i)) (sM S) (sD S) (sG S) (sB S) n).1 = sB S ∧ (flR (fun i => some (sW S i)) (sM S) (sD S) (sG S) (sB S) n).2.1 = sG S) ∧ ∀ o, o < n → ¬ (flR (fun i => some (sW S i)) (sM S) (sD S) (sG S) (sB S) n).2.1 o < sM S o ∨ ∀ i, i < 40 → bFit ((flR (fun i => some (sW S i)) (sM S) (sD S) (sG S) (sB S) n).1 i) (some (sW S o)) (sD S o) = false
  | 0, _ => ⟨0, 0, 0, Nat.le_refl _, Nat.le_refl _, Nat.le_refl _, Nat.le_refl _, rfl, rfl, rfl, rfl, fun _ => ⟨rfl, rfl⟩, fun o ho => absurd ho (Nat.not_lt_zero _)⟩
  | n + 1, hn => by
    obtain ⟨g, lk, ft, h1, h2, h3, h4, h5, h6, h7, h8, h9, h10⟩ := flAll hI n (by omega)
    obtain ⟨hWn, m, d9, g9, z1, z2, z3, z4, z5, z6, z7⟩ := hI.2.2.2.2 n (by omega)
    have eG : (flR (fun i => some (sW S i)) (sM S) (sD S) (sG S) (sB S) n).2.1 n = nI g9 := (fl_hi n (Nat.le_refl _)).trans z7
    obtain ⟨d, a1, a2, a3, a4, a5, a6, a7⟩ := gvAll (W := sW S n) (wet := sD S n) (B := (flR (fun i => some (sW S i)) (sM S) (sD S) (sG S) (sB S) n).1) z2 z4 40 (Nat.le_refl _)
    have ho6 := hI.1.2
    have hB := flR_B (W := fun i => some (sW S i)) (Mn := sM S) (Dr := sD S) (G := sG S) (B := sB S) n
    have hBg := gvR_B (oh := some (sW S n)) (many := nI m) (wet := sD S n) (got := nI g9) (B := (flR (fun i => some (sW S i)) (sM S) (sD S) (sG S) (sB S) n).1) 40
    rw [flR_st, eG, z5]
    generalize hV : flR (fun i => some (sW S i)) (sM S) (sD S) (sG S) (sB S) n = V at *
    generalize hU : gvR (some (sW S n)) (nI m) (sD S n) (nI g9) V.1 40 = U at *
    have hle : cN (fun b => bFit b (some (sW S n)) (sD S n)) V.1 40 ≤ cN (fun b => bFit b (some (sW S n)) (sD S n)) (sB S) 40 := cN_mono 40 (fun i hi q => by
      rcases hB i with z | z
      · rw [z] at q; exact q
      · rw [z] at q; exact absurd q (by rw [bFit_emp]; decide))
    have hl40 := cN_le (fun b => bFit b (some (sW S n)) (sD S n)) (sB S) 40
    refine ⟨g + d, lk + (m - g9), ft + cN (fun b => bFit b (some (sW S n)) (sD S n)) (sB S) 40, by omega, by omega, by omega, by omega, ?_, ?_, ?_, ?_, fun q => ?_, fun o ho => ?_⟩
    · rw [show lackS S (n + 1) = lackS S n + (sM S n - sG S n) from sum_s _ n, h5, z5, z7, pk_sub z4, nI_add]
    · rw [show fitS S (n + 1) = fitS S n + asI S n 4 from sum_s _ n, h6, asI_4, fit_cN, nI_add]
    · show V.2.2 + U.2.2 = _
      rw [h7, a2, nI_add]
    · show cN pTk U.1 40 + (g + d) = _
      omega
    · have hg0 : g = 0 := by omega
      have hd0 : d = 0 := by omega
      refine ⟨(a6 hd0).trans (h9 hg0).1, ?_⟩
      show fUp V.2.1 n U.2.1 = sG S
      rw [(h9 hg0).2, a3, hd0, Nat.add_zero, ← z7]
      exact fUp_k
    · show ¬ fUp V.2.1 n U.2.1 o < sM S o ∨ ∀ i, i < 40 → bFit (U.1 i) (some (sW S o)) (sD S o) = false
      by_cases q : o = n
      · subst q
        rw [fUp_s, a3, z5]
        by_cases c : g9 + d = m
        · rw [c]; exact Or.inl (Int32.lt_irrefl)
        · refine Or.inr (fun i hi => ?_)
          obtain ⟨u, hu, rfl⟩ := ixT_all hi
          rcases a7 u hu with w | w
          · exact absurd w c
          · exact w
      · rw [fUp_n q]
        rcases h10 o (by omega) with w | w
        · exact Or.inl w
        · refine Or.inr (fun i hi => ?_)
          rcases hBg i with y | y
          · rw [y]; exact w i hi
          · rw [y]; exact bFit_emp
theorem fillEnd {S : hS} {D : Nat} (hI : sI2 S D) {o : Nat} (ho : o < sO S) (h : sG (sFill S).2 o < sM (sFill S).2 o) : ∀ i, i < 40 → bFit (sB (sFill S).2 i) (some (sW S o)) (sD S o) = false := by
  obtain ⟨g, lk, ft, -, -, -, -, -, -, -, -, -, h10⟩ := flAll hI (sO S) (Nat.le_refl _)
  rcases h10 o ho with z | z
  · exact absurd h z
  · exact z
theorem fillLe {S : hS} {D : Nat} (hI : sI2 S D) : ¬ lackS S (sO S) < (sFill S).1 ∧ ¬ fitS S (sO S) < (sFill S).1 ∧ cnI (sFill S).2 2 = cnI S 2 - (sFill S).1 ∧ ((sFill S).1 = 0 → (sFill S).2 = S) := by
  obtain ⟨g, lk, ft, h1, h2, h3, h4, h5, h6, h7, h8, h9, -⟩ := flAll hI (sO S) (Nat.le_refl _)
  have ho6 := hI.1.2
  have e1 : (sFill S).1 = nI g := h7
  refine ⟨?_, ?_, ?_, fun q => ?_⟩
  · rw [e1, h5]; exact Int32.not_lt.mpr (nI_le h1 (by omega))
  · rw [e1, h6]; exact Int32.not_lt.mpr (nI_le h2 (by omega))
  · have h40 := cN_le pTk (sB S) 40
    rw [cnI_2, cnI_2, e1, cnt_cN, cnt_cN, ← h8, pk_sub (by omega)]
    show nI (cN pTk (flR (fun i => some (sW S i)) (sM S) (sD S) (sG S) (sB S) (sO S)).1 40) = _
    rw [Nat.add_sub_cancel]
  · have hg : g = 0 := (nI_eq (a := g) (b := 0) (by omega) (by decide)).mp (e1.symm.trans q)
    obtain ⟨w1, w2⟩ := h9 hg
    unfold sFill
    rw [w1, w2]
theorem gvSame {oh : Option Nat} {many wet got : Int32} {B : Nat → hB} (h : ¬ got < many ∨ ∀ i, i < 40 → bFit (B i) oh wet = false) : ∀ t, t ≤ 40 → gvR oh many wet got B t = (B, got, 0)
  | 0, _ => rfl
  | t + 1, ht => by
    rw [gvR_s, gvSame h t (by omega)]
    refine gvS_n ?_
    rcases h with z | z
    · exact Or.inl z
    · exact Or.inr (z _ (ixT_lt (by omega)))
theorem flSame {W : Nat → Option Nat} {Mn Dr G : Nat → Int32} {B : Nat → hB} {N : Nat} (h : ∀ o, o < N → ¬ G o < Mn o ∨ ∀ i, i < 40 → bFit (B i) (W o) (Dr o) = false) : ∀ n, n ≤ N → flR W Mn Dr G B n = (B, G, 0)
  | 0, _ => rfl
  | n + 1, hn => by
    rw [flR_st, flSame h n (by omega)]
    show ((gvR (W n) (Mn n) (Dr n) (G n) B 40).1, fUp G n (gvR (W n) (Mn n) (Dr n) (G n) B 40).2.1, 0 + (gvR (W n) (Mn n) (Dr n) (G n) B 40).2.2) = _
    rw [gvSame (h n (by omega)) 40 (Nat.le_refl _)]
    show (B, fUp G n (G n), (0 : Int32) + 0) = _
    rw [fUp_k]; rfl
theorem fill2 {S : hS} {D : Nat} (hI : sI2 S D) : sFill (sFill S).2 = (0, (sFill S).2) := by
  have h := flSame (W := fun i => some (sW S i)) (Mn := sM S) (Dr := sD S) (G := sG (sFill S).2) (B := sB (sFill S).2) (N := sO S) (fun o ho => by
    by_cases q : sG (sFill S).2 o < sM S o
    · exact Or.inr (fillEnd hI ho q)
    · exact Or.inl q) (sO S) (Nat.le_refl _)
  show ((flR (fun i => some (sW S i)) (sM S) (sD S) (sG (sFill S).2) (sB (sFill S).2) (sO S)).2.2, _) = _
  unfold sFill at h ⊢
  simp only at h ⊢
  rw [h]
theorem fillAs {S : hS} {D : Nat} (hI : sI2 S D) {o : Nat} (ho : o < sO S) (h : asI (sFill S).2 o 3 < asI (sFill S).2 o 1) : ¬ 0 < asI (sFill S).2 o 4 := by
  rw [asI_3, asI_1] at h
  rw [asI_4, fit_cN, cN_0 40 (fillEnd hI ho h)]
  decide
theorem fillGi {S : hS} : cnI (sFill S).2 6 = cnI S 6 + (sFill S).1 := by
  rw [cnI_6, cnI_6]
  exact givn_f S
