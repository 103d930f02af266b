/-! ===== a day of the simulation, in numbers ===== -/
def bOk (n D : Nat) (b : hB) : Prop := b = emp ∨ ∃ j u v w m : Nat, j < n ∧ u ≤ 100 ∧ v ≤ 100 ∧ w ≤ D ∧ m ≤ 9 ∧ b = (some j, nI u, nI v, nI w, nI m)
/-- what holds in every state that the law reaches; D: no bundle has more wet days -/
def sI2 (S : hS) (D : Nat) : Prop := (sN S ≤ 6 ∧ sO S ≤ 6) ∧ (∀ i, i < sN S → ∃ e l : Nat, 1 ≤ e ∧ e ≤ 9 ∧ 20 ≤ l ∧ l ≤ 90 ∧ sE S i = nI e ∧ sL S i = nI l) ∧ (∃ w : Nat, w ≤ 3 ∧ sWin S = nI w) ∧ (∀ i, i < 40 → bOk (sN S) D (sB S i)) ∧ (∀ i, i < sO S → sW S i < sN S ∧ ∃ m d g : Nat, 1 ≤ m ∧ m ≤ 9 ∧ d ≤ 60 ∧ g ≤ m ∧ sM S i = nI m ∧ sD S i = nI d ∧ sG S i = nI g)
theorem bOk.tk {n D : Nat} {b : hB} (h : bOk n D b) {j : Nat} (hj : b.1 = some j) : j < n ∧ ∃ u v w m : Nat, u ≤ 100 ∧ v ≤ 100 ∧ w ≤ D ∧ m ≤ 9 ∧ b = (some j, nI u, nI v, nI w, nI m) := by
  rcases h with h | ⟨j2, u, v, w, m, h0, h1, h2, h3, h4, h5⟩
  · rw [h] at hj; cases hj
  · have e : b.1 = some j2 := by rw [h5]
    cases hj.symm.trans e
    exact ⟨h0, u, v, w, m, h1, h2, h3, h4, h5⟩
theorem bOk.em {n D : Nat} {b : hB} (h : bOk n D b) (hj : b.1 = none) : b = emp := by
  rcases h with h | ⟨j2, u, v, w, m, h0, h1, h2, h3, h4, h5⟩
  · exact h
  · rw [h5] at hj; cases hj
theorem sI2.inv {S : hS} {D : Nat} (h : sI2 S D) : sInv S := by
  obtain ⟨⟨h1, h2⟩, h3, h4, h5, h6⟩ := h
  refine ⟨h1, h2, fun i hi j hj => ?_, fun i hi => (h6 i hi).1, fun i hi => ?_⟩
  · obtain ⟨q0, u, v, w, m, q1, q2, q3, q4, q5⟩ := (h5 i hi).tk hj
    have e1 : (sB S i).2.1 = nI u := by rw [q5]
    have e2 : (sB S i).2.2.1 = nI v := by rw [q5]
    rw [e1, e2]
    exact ⟨q0, nI_pos' (by omega), nI_le q1 (by decide), nI_pos' (by omega), nI_le q2 (by decide)⟩
  · obtain ⟨-, m, d, g, -, q2, -, q4, q5, -, q7⟩ := h6 i hi
    rw [q5, q7]
    exact nI_le q4 (by omega)
theorem bI_nI (a b : Bool) : ∃ q : Nat, q ≤ 2 ∧ bI a + bI b = nI q := by
  cases a <;> cases b
  · exact ⟨0, by decide, by decide⟩
  · exact ⟨1, by decide, by decide⟩
  · exact ⟨1, by decide, by decide⟩
  · exact ⟨2, by decide, by decide⟩
theorem wets_nI (B : Nat → hB) (i : Nat) : ∃ q : Nat, q ≤ 2 ∧ wets B i = nI q := bI_nI _ _
theorem sub_sub9 (a b c : Int32) : a - b - c = a - (b + c) := by
  rw [Int32.sub_eq_add_neg, Int32.sub_eq_add_neg, Int32.sub_eq_add_neg, Int32.neg_add, Int32.add_assoc, Int32.sub_eq_add_neg]
/-- the force as the simulation has it -/
def sFo (e : Int32) (t : Nat) (win dmp nr : Int32) : Int32 := e + nI t + win + win - dmp - nr
def fN (e t w d q : Nat) : Nat := (e + t + w + w) - (d + q)
theorem sFo_nI {e t w d q : Nat} : sFo (nI e) t (nI w) (nI d) (nI q) = nI (e + t + w + w) - nI (d + q) := by
  unfold sFo
  rw [sub_sub9, nI_add, nI_add, nI_add, nI_add]
theorem two_nI (w : Nat) : 2 * nI w = nI (w + w) := by rw [show (2 : Int32) = nI 2 from rfl, pk_mul, show 2 * w = w + w by omega]
theorem mx0_nI (a b : Nat) (ha : a < 2 ^ 30) (hb : b < 2 ^ 30) : mx0 (nI a - nI b) = nI (a - b) := by
  unfold mx0
  rcases Nat.lt_or_ge b a with h | h
  · rw [pk_sub (by omega), if_pos]
    rw [← nI_0]
    exact nI_lt (by omega) (by omega)
  · rcases Nat.eq_or_lt_of_le h with e | l
    · subst e
      rw [pk_sub (by omega), Nat.sub_self]
      rfl
    · rw [if_neg (Int32.not_lt.mpr (Int32.le_of_lt (pk_sneg hb l))), show a - b = 0 by omega]
      rfl
theorem cls_F {e t w d q : Nat} (he : e ≤ 9) (ht : t ≤ 4) (hw : w ≤ 3) (hd : d ≤ 9) (hq : q ≤ 2) {b1 b2 : Bool} (h : bI b1 + bI b2 = nI q) : bFrc (nI e) (nI t) (nI w) (nI d) b1 b2 = nI (fN e t w d q) := by
  unfold bFrc
  rw [h, two_nI, sub_sub9, nI_add, nI_add, nI_add, mx0_nI _ _ (by omega) (by omega)]
  unfold fN
  rw [show e + t + (w + w) = e + t + w + w by omega]
theorem go_c {e t w d q j : Nat} (he : e ≤ 9) (ht : t ≤ 4) (hw : w ≤ 3) (hd : d ≤ 9) (hq : q ≤ 2) (hj : j < 1000) : (nI (j + 1) ≤ sFo (nI e) t (nI w) (nI d) (nI q)) ↔ j < fN e t w d q := by
  rw [sFo_nI]
  unfold fN
  rcases Nat.lt_or_ge (e + t + w + w) (d + q) with h | h
  · have h1 := pk_sneg (a := e + t + w + w) (b := d + q) (by omega) h
    refine ⟨fun z => absurd (Int32.lt_of_le_of_lt z h1) (nI_pos (by omega)), fun z => by omega⟩
  · rw [pk_sub h, nI_leI (by omega) (by omega)]
    omega
theorem fN_le {e t w d q : Nat} (he : e ≤ 9) (ht : t ≤ 4) (hw : w ≤ 3) : fN e t w d q ≤ 19 := by unfold fN; omega
theorem dFr_nI {u F : Nat} (hu : u ≤ 100) (hF : F ≤ 19) : dFr (nI u) (nI F) = nI (u - F) := mx0_nI _ _ (by omega) (by omega)
theorem dBk_nI {v F : Nat} (hv : v ≤ 100) (hF : F ≤ 19) : dBk (nI v) (nI F) = nI (v - F / 2) := by
  unfold dBk
  rw [show (2 : Int32) = nI 2 from rfl, pk_div (by omega) (by decide) (by decide)]
  exact mx0_nI _ _ (by omega) (by omega)
/-- the simulation's mould -/
theorem dM1_a {wd : Int32} {m : Nat} (hm : m ≤ 9) (h1 : 2 < wd) (h2 : nI m < 9) : dM1 wd (nI m) = nI m + 1 := by
  unfold dM1
  rw [if_pos ((lt2_3 _).mp h1)]
  have : m < 9 := (nI_ltI (a := m) (b := 9) (by omega) (by decide)).mp h2
  rw [nI_1]
  by_cases h : m + 1 < 9
  · exact if_pos (nI_lt h (by decide))
  · rw [show m + 1 = 9 by omega]; exact if_neg (by decide)
theorem dM1_b {wd : Int32} {m : Nat} (hm : m ≤ 9) (h2 : ¬ nI m < 9) : dM1 wd (nI m) = nI m := by
  have h9 : m = 9 := by
    rcases Nat.lt_or_ge m 9 with q | q
    · exact absurd (nI_lt q (by decide)) h2
    · omega
  subst h9
  unfold dM1
  split
  · decide
  · rfl
theorem dM1_c {wd mo : Int32} (h1 : ¬ 2 < wd) : dM1 wd mo = mo := if_neg (fun q => h1 ((lt2_3 _).mpr q))
/-- a bundle's day -/
theorem vDay_at {E L : Nat → Int32} {win dmp : Int32} {B : Nat → hB} {i j : Nat} (h : (B i).1 = some j) : vDay E L win dmp B i = dBun (E j) (L j) win dmp B i := by
  unfold vDay; rw [h]
theorem vDay_no {E L : Nat → Int32} {win dmp : Int32} {B : Nat → hB} {i : Nat} (h : (B i).1 = none) : vDay E L win dmp B i = B i := by
  unfold vDay; rw [h]
theorem dBun_nI {n e l w d q : Nat} {B : Nat → hB} {i j u v wd m : Nat} (hi : i < 40) (he : e ≤ 9) (hw : w ≤ 3) (hd : d ≤ 9) (hq : q ≤ 2) (hwq : wets B i = nI q) (hu : u ≤ 100) (hv : v ≤ 100) (hb : B i = (some j, nI u, nI v, nI wd, nI m)) :
    dBun (nI e) (nI l) (nI w) (nI d) B i = (some j, nI (u - fN e (i / 8) w d q), nI (v - fN e (i / 8) w d q / 2), dWd (nI l) (nI (u - fN e (i / 8) w d q)) (nI (v - fN e (i / 8) w d q / 2)) (nI wd), dM2 (dM1 (dWd (nI l) (nI (u - fN e (i / 8) w d q)) (nI (v - fN e (i / 8) w d q / 2)) (nI wd)) (nI m)) (nSp B i)) := by
  have hF : dFrc (nI e) (nI w) (nI d) B i = nI (fN e (i / 8) w d q) := cls_F he (by omega) hw hd hq hwq
  have h19 : fN e (i / 8) w d q ≤ 19 := fN_le he (by omega) hw
  unfold dBun
  rw [hF, hb]
  simp only
  rw [dFr_nI hu h19, dBk_nI hv h19]
