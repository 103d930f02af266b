/-! ===== what the calls answer at the law's numbers ===== -/
theorem isHk_ok {t h : Nat} (ht : t < 5) (hh : h < 8) : isHk (nI t) (nI h) = true := by
  unfold isHk
  rw [show inStr (nI t) = true from inR_nIt (N := 4) (by omega) (by decide), show inHok (nI h) = true from inR_nIt (N := 7) (by omega) (by decide)]; rfl
theorem ixOf_ok {t h : Nat} (ht : t < 5) (hh : h < 8) : ixOf (nI t) (nI h) = t * 8 + h := ixOf_nI (by omega) (by omega)
theorem inR_ok {lo hi : Int32} {a b w : Nat} (h1 : a ≤ w) (h2 : w ≤ b) (hb : b < 1000) (e1 : lo = nI a) (e2 : hi = nI b) : inR lo hi (nI w) = true := by
  unfold inR
  rw [e1, e2, decide_eq_true (nI_le h1 (by omega)), decide_eq_true (nI_le h2 (by omega))]; rfl
theorem hNo_nI {j : Nat} (h : j < 1000) : hNo (nI j) = j := nI_clamp (by omega)
theorem sHang_no {S : hS} {t h j w : Nat} (ht : t < 5) (hh : h < 8) (hn : sN S ≤ 6) (hj : j < sN S) (hw : w ≤ 100) (hb : (sB S (t * 8 + h)).1 = none) : sHang S (nI t) (nI h) (nI j) (nI w) = (0, hIt (fCnt (fUp (sB S) (t * 8 + h) (some j, nI w, nI w, 0, 0))) 0 40, setB S (fUp (sB S) (t * 8 + h) (some j, nI w, nI w, 0, 0))) := by
  have e1 := isHk_ok ht hh
  have e2 := isH_ok hn hj
  have e3 : inR 0 100 (nI w) = true := inR_ok (a := 0) (b := 100) (by omega) hw (by decide) rfl rfl
  have e4 : bTak (sB S (t * 8 + h)) = false := by show (sB S (t * 8 + h)).1.isSome = false; rw [hb]; rfl
  unfold sHang
  simp [e1, e2, e3, e4, ixOf_ok ht hh, hNo_nI (show j < 1000 by omega)]
theorem sHang_yes {S : hS} {t h j w : Nat} (ht : t < 5) (hh : h < 8) (hn : sN S ≤ 6) (hj : j < sN S) (hw : w ≤ 100) (hb : (sB S (t * 8 + h)).1.isSome = true) : (sHang S (nI t) (nI h) (nI j) (nI w)).1 = 3 := by
  have e1 := isHk_ok ht hh
  have e2 := isH_ok hn hj
  have e3 : inR 0 100 (nI w) = true := inR_ok (a := 0) (b := 100) (by omega) hw (by decide) rfl rfl
  have e4 : bTak (sB S (t * 8 + h)) = true := hb
  unfold sHang
  simp [e1, e2, e3, e4, ixOf_ok ht hh]
theorem sTake_no {S : hS} {t h : Nat} (ht : t < 5) (hh : h < 8) (hb : (sB S (t * 8 + h)).1 = none) : (sTake S (nI t) (nI h)).1 = 2 := by
  have e1 := isHk_ok ht hh
  have e4 : bTak (sB S (t * 8 + h)) = false := by show (sB S (t * 8 + h)).1.isSome = false; rw [hb]; rfl
  unfold sTake
  simp [e1, e4, ixOf_ok ht hh]
theorem sTake_yes {S : hS} {t h : Nat} (ht : t < 5) (hh : h < 8) (hb : (sB S (t * 8 + h)).1.isSome = true) : sTake S (nI t) (nI h) = (0, bWet (sB S (t * 8 + h)), setB S (fUp (sB S) (t * 8 + h) emp)) := by
  have e1 := isHk_ok ht hh
  have e4 : bTak (sB S (t * 8 + h)) = true := hb
  unfold sTake
  simp [e1, e4, ixOf_ok ht hh]
theorem sMove_no {S : hS} {t h t2 h2 : Nat} (ht : t < 5) (hh : h < 8) (ht2 : t2 < 5) (hh2 : h2 < 8) (hb : (sB S (t * 8 + h)).1.isSome = false ∨ (sB S (t2 * 8 + h2)).1.isSome = true) : (sMove S (nI t) (nI h) (nI t2) (nI h2)).1 = 2 := by
  have e1 := isHk_ok ht hh
  have e2 := isHk_ok ht2 hh2
  unfold sMove
  simp only [e1, e2, ixOf_ok ht hh, ixOf_ok ht2 hh2]
  cases e4 : bTak (sB S (t * 8 + h)) with
  | false => simp
  | true =>
    cases e5 : bTak (sB S (t2 * 8 + h2)) with
    | true => simp
    | false =>
      rcases hb with q | q
      · have q' : bTak (sB S (t * 8 + h)) = false := q
        rw [e4] at q'; cases q'
      · have q' : bTak (sB S (t2 * 8 + h2)) = true := q
        rw [e5] at q'; cases q'
/-- the bundles when one has moved from a to b -/
def mvB (B : Nat → hB) (a b : Nat) : Nat → hB := fUp (fUp B b (B a)) a emp
theorem sMove_yes {S : hS} {t h t2 h2 : Nat} (ht : t < 5) (hh : h < 8) (ht2 : t2 < 5) (hh2 : h2 < 8) (hb : (sB S (t * 8 + h)).1.isSome = true) (hb2 : (sB S (t2 * 8 + h2)).1 = none) : sMove S (nI t) (nI h) (nI t2) (nI h2) = (0, nbrs (mvB (sB S) (t * 8 + h) (t2 * 8 + h2)) (t2 * 8 + h2), setB S (mvB (sB S) (t * 8 + h) (t2 * 8 + h2))) := by
  have e1 := isHk_ok ht hh
  have e2 := isHk_ok ht2 hh2
  have e4 : bTak (sB S (t * 8 + h)) = true := hb
  have e5 : bTak (sB S (t2 * 8 + h2)) = false := by show (sB S (t2 * 8 + h2)).1.isSome = false; rw [hb2]; rfl
  unfold sMove
  simp [e1, e2, ixOf_ok ht hh, ixOf_ok ht2 hh2, e4, e5, mvB]
theorem sTurn_ok {S : hS} {t : Nat} (ht : t < 5) : sTurn S (nI t) = (0, hIt (fTurn t (sB S)) 0 40, setB S (vTurn t (sB S))) := by
  have e1 : inStr (nI t) = true := inR_nIt (N := 4) (by omega) (by decide)
  unfold sTurn
  simp [e1, hNo_nI (show t < 1000 by omega)]
theorem sSetW_ok {S : hS} {w : Nat} (hw : w ≤ 3) : sSetW S (nI w) = (0, sWin S, (S.1, S.2.1, S.2.2.1, nI w, S.2.2.2.2)) := by
  have e1 : inR 0 3 (nI w) = true := inR_ok (a := 0) (b := 3) (by omega) hw (by decide) rfl rfl
  unfold sSetW
  simp [e1]
theorem sOrd_no {S : hS} {j m w : Nat} (hn : sN S ≤ 6) (hj : j < sN S) (hm1 : 1 ≤ m) (hm : m ≤ 9) (hw : w ≤ 60) (ho : ¬ sO S < 6) : (sOrd S (nI j) (nI m) (nI w)).1 = 3 := by
  have e2 := isH_ok hn hj
  have e1 : inR 1 9 (nI m) = true := inR_ok (a := 1) (b := 9) hm1 hm (by decide) rfl rfl
  have e3 : inR 0 60 (nI w) = true := inR_ok (a := 0) (b := 60) (by omega) hw (by decide) rfl rfl
  unfold sOrd
  simp [e1, e2, e3, ho]
def ordS (S : hS) (j : Nat) (m w : Int32) : hS := (S.1, (sO S + 1, fUp (sW S) (sO S) j, fUp (sM S) (sO S) m, fUp (sD S) (sO S) w, fUp (sG S) (sO S) 0), S.2.2)
theorem sOrd_yes {S : hS} {j m w : Nat} (hn : sN S ≤ 6) (hj : j < sN S) (hm1 : 1 ≤ m) (hm : m ≤ 9) (hw : w ≤ 60) (ho : sO S < 6) : sOrd S (nI j) (nI m) (nI w) = (0, nI (sO S), ordS S j (nI m) (nI w)) := by
  have e2 := isH_ok hn hj
  have e1 : inR 1 9 (nI m) = true := inR_ok (a := 1) (b := 9) hm1 hm (by decide) rfl rfl
  have e3 : inR 0 60 (nI w) = true := inR_ok (a := 0) (b := 60) (by omega) hw (by decide) rfl rfl
  unfold sOrd
  simp [e1, e2, e3, ho, hNo_nI (show j < 1000 by omega), ordS]
def goN (S : hS) (dmp : Int32) (n : Nat) : hS := (S.1, S.2.1, vDays (sE S) (sL S) (sWin S) dmp (sB S) n, sWin S, sDay S + nI n)
theorem goN_0 {S : hS} {dmp : Int32} : goN S dmp 0 = S := by
  unfold goN
  rw [nI_0, Int32.add_zero]
  rfl
theorem goN_s {S : hS} {dmp : Int32} {n : Nat} : sGo (goN S dmp n) dmp = goN S dmp (n + 1) := by
  unfold sGo goN
  show (S.1, S.2.1, _, sWin S, sDay S + nI n + 1) = (S.1, S.2.1, _, sWin S, sDay S + nI (n + 1))
  rw [Int32.add_assoc, nI_1]
  rfl
theorem goN_1 {S : hS} {dmp : Int32} : sGo S dmp = goN S dmp 1 := by
  have := goN_s (S := S) (dmp := dmp) (n := 0)
  rw [goN_0] at this
  exact this
theorem sPass_ok {S : hS} {n d : Nat} (h1 : 1 ≤ n) (hn : n ≤ 60) (hd : d ≤ 9) : sPass S (nI n) (nI d) = (0, hIt (fBad (sB (goN S (nI d) n))) 0 40, goN S (nI d) n) := by
  have e1 : inR 1 60 (nI n) = true := inR_ok (a := 1) (b := 60) h1 hn (by decide) rfl rfl
  have e3 : inR 0 9 (nI d) = true := inR_ok (a := 0) (b := 9) (by omega) hd (by decide) rfl rfl
  unfold sPass
  simp [e1, e3, sAft, hNo_nI (show n < 1000 by omega), goN]
theorem sFore_3 {S : hS} {n d : Nat} (h1 : 1 ≤ n) (hn : n ≤ 60) (hd : d ≤ 9) : sFore S (nI n) (nI d) 3 = (0, hIt (fBad (sB (goN S (nI d) n))) 0 40) := by
  have e1 : inR 1 60 (nI n) = true := inR_ok (a := 1) (b := 60) h1 hn (by decide) rfl rfl
  have e3 : inR 0 9 (nI d) = true := inR_ok (a := 0) (b := 9) (by omega) hd (by decide) rfl rfl
  unfold sFore
  simp [e1, e3, sAft, hNo_nI (show n < 1000 by omega), goN]
theorem sFore_8 {S : hS} {n d : Nat} (h1 : 1 ≤ n) (hn : n ≤ 60) (hd : d ≤ 9) : sFore S (nI n) (nI d) 8 = (0, hIt (fSum (sB (goN S (nI d) n))) 0 40) := by
  have e1 : inR 1 60 (nI n) = true := inR_ok (a := 1) (b := 60) h1 hn (by decide) rfl rfl
  have e3 : inR 0 9 (nI d) = true := inR_ok (a := 0) (b := 9) (by omega) hd (by decide) rfl rfl
  unfold sFore
  simp [e1, e3, sAft, hNo_nI (show n < 1000 by omega), goN]
def hrbS (S : hS) (e l : Int32) : hS := ((sN S + 1, fUp (sE S) (sN S) e, fUp (sL S) (sN S) l), S.2)
theorem sHerb_ok {S : hS} {e l : Nat} (h1 : 1 ≤ e) (h2 : e ≤ 9) (h3 : 20 ≤ l) (h4 : l ≤ 90) (hn : sN S < 6) : sHerb S (nI e) (nI l) = (0, nI (sN S), hrbS S (nI e) (nI l)) := by
  have e1 : inR 1 9 (nI e) = true := inR_ok (a := 1) (b := 9) h1 h2 (by decide) rfl rfl
  have e3 : inR 20 90 (nI l) = true := inR_ok (a := 20) (b := 90) h3 h4 (by decide) rfl rfl
  unfold sHerb
  simp [e1, e3, hn, hrbS]
/-! ===== what holds in every state stays so ===== -/
theorem bOk.mono {n D D2 : Nat} {b : hB} (h : bOk n D b) (hD : D ≤ D2) : bOk n D2 b := by
  rcases h with h | ⟨j, u, v, w, m, h0, h1, h2, h3, h4, h5⟩
  · exact Or.inl h
  · exact Or.inr ⟨j, u, v, w, m, h0, h1, h2, by omega, h4, h5⟩
theorem sI2.mono {S : hS} {D D2 : Nat} (h : sI2 S D) (hD : D ≤ D2) : sI2 S D2 := ⟨h.1, h.2.1, h.2.2.1, fun i hi => (h.2.2.2.1 i hi).mono hD, h.2.2.2.2⟩
theorem sI2.bun {S : hS} {D D2 : Nat} (h : sI2 S D) {B : Nat → hB} (hB : ∀ i, i < 40 → bOk (sN S) D2 (B i)) : sI2 (setB S B) D2 := ⟨h.1, h.2.1, h.2.2.1, hB, h.2.2.2.2⟩
theorem sI2.up {S : hS} {D : Nat} (h : sI2 S D) {k : Nat} {b : hB} (hb : bOk (sN S) D b) : sI2 (setB S (fUp (sB S) k b)) D := h.bun (fun i hi => by
  by_cases e : i = k
  · subst e; rw [fUp_s]; exact hb
  · rw [fUp_n e]; exact h.2.2.2.1 i hi)
theorem bOk.emp' {n D : Nat} : bOk n D emp := Or.inl rfl
theorem bOk.new {n D j w : Nat} (hj : j < n) (hw : w ≤ 100) : bOk n D (some j, nI w, nI w, 0, 0) := Or.inr ⟨j, w, w, 0, 0, hj, hw, hw, by omega, by omega, rfl⟩
theorem sI2.mv {S : hS} {D : Nat} (h : sI2 S D) {a b : Nat} (ha : a < 40) : sI2 (setB S (mvB (sB S) a b)) D := by
  have h1 := h.up (k := b) (h.2.2.2.1 a ha)
  exact h1.up (k := a) bOk.emp'
theorem bOk.swp {n D : Nat} {b : hB} (h : bOk n D b) : bOk n D (bSwp b) := by
  rcases h with h | ⟨j, u, v, w, m, h0, h1, h2, h3, h4, h5⟩
  · rw [h]; exact Or.inl rfl
  · rw [h5]; exact Or.inr ⟨j, v, u, w, m, h0, h2, h1, h3, h4, rfl⟩
theorem sI2.turn {S : hS} {D : Nat} (h : sI2 S D) (t : Nat) : sI2 (setB S (vTurn t (sB S))) D := h.bun (fun i hi => by
  unfold vTurn
  split
  · exact (h.2.2.2.1 i hi).swp
  · exact h.2.2.2.1 i hi)
theorem sI2.win {S : hS} {D w : Nat} (h : sI2 S D) (hw : w ≤ 3) : sI2 (S.1, S.2.1, S.2.2.1, nI w, S.2.2.2.2) D := ⟨h.1, h.2.1, ⟨w, hw, rfl⟩, h.2.2.2.1, h.2.2.2.2⟩
theorem sI2.ord {S : hS} {D j m w : Nat} (h : sI2 S D) (hj : j < sN S) (hm1 : 1 ≤ m) (hm : m ≤ 9) (hw : w ≤ 60) (ho : sO S < 6) : sI2 (ordS S j (nI m) (nI w)) D := by
  refine ⟨⟨h.1.1, ho⟩, h.2.1, h.2.2.1, h.2.2.2.1, fun i hi => ?_⟩
  show fUp (sW S) (sO S) j i < sN S ∧ ∃ m2 d g : Nat, 1 ≤ m2 ∧ m2 ≤ 9 ∧ d ≤ 60 ∧ g ≤ m2 ∧ fUp (sM S) (sO S) (nI m) i = nI m2 ∧ fUp (sD S) (sO S) (nI w) i = nI d ∧ fUp (sG S) (sO S) 0 i = nI g
  have hi' : i < sO S + 1 := hi
  by_cases e : i = sO S
  · subst e
    rw [fUp_s, fUp_s, fUp_s, fUp_s]
    exact ⟨hj, m, w, 0, hm1, hm, hw, by omega, rfl, rfl, rfl⟩
  · rw [fUp_n e, fUp_n e, fUp_n e, fUp_n e]
    exact h.2.2.2.2 i (by omega)
theorem sI2.hrb {S : hS} {D e l : Nat} (h : sI2 S D) (h1 : 1 ≤ e) (h2 : e ≤ 9) (h3 : 20 ≤ l) (h4 : l ≤ 90) (hn : sN S < 6) : sI2 (hrbS S (nI e) (nI l)) D := by
  refine ⟨⟨hn, h.1.2⟩, fun i hi => ?_, h.2.2.1, fun i hi => ?_, fun i hi => ⟨Nat.lt_succ_of_lt (h.2.2.2.2 i hi).1, (h.2.2.2.2 i hi).2⟩⟩
  · show ∃ e2 l2 : Nat, 1 ≤ e2 ∧ e2 ≤ 9 ∧ 20 ≤ l2 ∧ l2 ≤ 90 ∧ fUp (sE S) (sN S) (nI e) i = nI e2 ∧ fUp (sL S) (sN S) (nI l) i = nI l2
    have hi' : i < sN S + 1 := hi
    by_cases q : i = sN S
    · subst q
      rw [fUp_s, fUp_s]
      exact ⟨e, l, h1, h2, h3, h4, rfl, rfl⟩
    · rw [fUp_n q, fUp_n q]
      exact h.2.1 i (by omega)
  · rcases h.2.2.2.1 i hi with q | ⟨j, u, v, w, m, q0, q1, q2, q3, q4, q5⟩
    · exact Or.inl q
    · exact Or.inr ⟨j, u, v, w, m, Nat.lt_succ_of_lt q0, q1, q2, q3, q4, q5⟩
theorem dWd_nI {l f b : Int32} {D w : Nat} (hw : w ≤ D) : ∃ w2 : Nat, w2 ≤ D + 1 ∧ dWd l f b (nI w) = nI w2 := by
  unfold dWd
  split
  · exact ⟨w + 1, by omega, nI_1 w⟩
  · exact ⟨0, by omega, rfl⟩
theorem dM1_nI {wd : Int32} {m : Nat} (hm : m ≤ 9) : ∃ m2 : Nat, m ≤ m2 ∧ m2 ≤ 9 ∧ m2 ≤ m + 1 ∧ dM1 wd (nI m) = nI m2 ∧ (m < m2 → 2 < wd) := by
  by_cases h1 : 2 < wd
  · by_cases h2 : nI m < 9
    · have : m < 9 := (nI_ltI (a := m) (b := 9) (by omega) (by decide)).mp h2
      exact ⟨m + 1, by omega, by omega, by omega, by rw [dM1_a hm h1 h2, nI_1], fun _ => h1⟩
    · exact ⟨m, by omega, hm, by omega, dM1_b hm h2, fun _ => h1⟩
  · exact ⟨m, by omega, hm, by omega, dM1_c h1, fun q => by omega⟩
theorem dM2_nI {m : Nat} {sp : Bool} (hm : m ≤ 9) : ∃ m2 : Nat, m ≤ m2 ∧ m2 ≤ 9 ∧ m2 ≤ m + 1 ∧ dM2 (nI m) sp = nI m2 ∧ (m < m2 → m = 0 ∧ sp = true) ∧ (m = 0 → sp = true → m2 = 1) := by
  unfold dM2
  by_cases h : nI m = 0 ∧ sp = true
  · have h0 : m = 0 := (nI_eq (a := m) (b := 0) (by omega) (by decide)).mp h.1
    exact ⟨1, by omega, by decide, by omega, by rw [if_pos h]; rfl, fun _ => ⟨h0, h.2⟩, fun _ _ => rfl⟩
  · exact ⟨m, by omega, hm, by omega, if_neg h, fun q => by omega, fun q1 q2 => absurd ⟨by rw [q1]; rfl, q2⟩ h⟩
theorem sI2.go {S : hS} {D d : Nat} (h : sI2 S D) (hd : d ≤ 9) : sI2 (sGo S (nI d)) (D + 1) := by
  obtain ⟨wn, hwn, ewn⟩ := h.2.2.1
  refine ⟨h.1, h.2.1, h.2.2.1, fun i hi => ?_, h.2.2.2.2⟩
  show bOk (sN S) (D + 1) (vDay (sE S) (sL S) (sWin S) (nI d) (sB S) i)
  rcases h.2.2.2.1 i hi with q | ⟨j, u, v, w, m, q0, q1, q2, q3, q4, q5⟩
  · rw [vDay_no (by rw [q]; rfl), q]; exact Or.inl rfl
  · obtain ⟨e, l, e1, e2, l1, l2, ee, el⟩ := h.2.1 j q0
    obtain ⟨qw, hqw, eqw⟩ := wets_nI (sB S) i
    rw [vDay_at (j := j) (by rw [q5]), ee, el, ewn, dBun_nI (n := sN S) hi e2 hwn hd hqw eqw q1 q2 q5]
    obtain ⟨w2, hw2, ew2⟩ := dWd_nI (l := nI l) (f := nI (u - fN e (i / 8) wn d qw)) (b := nI (v - fN e (i / 8) wn d qw / 2)) q3
    obtain ⟨m2, -, hm2, -, em2, -⟩ := dM1_nI (wd := nI w2) q4
    obtain ⟨m3, -, hm3, -, em3, -⟩ := dM2_nI (sp := nSp (sB S) i) hm2
    rw [ew2, em2, em3]
    exact Or.inr ⟨j, _, _, w2, m3, q0, by omega, by omega, hw2, hm3, rfl⟩
theorem sI2.goN {S : hS} {D d : Nat} (h : sI2 S D) (hd : d ≤ 9) : ∀ n, sI2 (goN S (nI d) n) (D + n)
  | 0 => by rw [goN_0]; exact h
  | n + 1 => by rw [← goN_s]; exact (sI2.goN h hd n).go hd
