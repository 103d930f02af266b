/-! ===== the loft as numbers: herbs, orders, bundles by hook, window, day ===== -/
abbrev hS : Type := (Nat × (Nat → Int32) × (Nat → Int32)) × (Nat × (Nat → Nat) × (Nat → Int32) × (Nat → Int32) × (Nat → Int32)) × (Nat → hB) × Int32 × Int32
abbrev sN (S : hS) : Nat := S.1.1
abbrev sE (S : hS) : Nat → Int32 := S.1.2.1
abbrev sL (S : hS) : Nat → Int32 := S.1.2.2
abbrev sO (S : hS) : Nat := S.2.1.1
abbrev sW (S : hS) : Nat → Nat := S.2.1.2.1
abbrev sM (S : hS) : Nat → Int32 := S.2.1.2.2.1
abbrev sD (S : hS) : Nat → Int32 := S.2.1.2.2.2.1
abbrev sG (S : hS) : Nat → Int32 := S.2.1.2.2.2.2
abbrev sB (S : hS) : Nat → hB := S.2.2.1
abbrev sWin (S : hS) : Int32 := S.2.2.2.1
abbrev sDay (S : hS) : Int32 := S.2.2.2.2
abbrev setB (S : hS) (B : Nat → hB) : hS := (S.1, S.2.1, B, S.2.2.2.1, S.2.2.2.2)
def inR (lo hi p : Int32) : Bool := decide (lo ≤ p) && decide (p ≤ hi)
def isH (S : hS) (h : Int32) : Bool := decide (0 ≤ h) && decide (h < nI (sN S))
def isHk (p q : Int32) : Bool := inStr p && inHok q
def emp : hB := (none, 0, 0, 0, 0)
def hNo (h : Int32) : Nat := h.toNatClampNeg
/-! what each call answers (0, the answer, the state behind it), or which of its exceptions comes (1, 2, 3) -/
def sHerb (S : hS) (e l : Int32) : Nat × Int32 × hS :=
  if inR 1 9 e = false then (1, 0, S) else if inR 20 90 l = false then (1, 0, S) else if ¬ sN S < 6 then (2, 0, S)
  else (0, nI (sN S), (sN S + 1, fUp (sE S) (sN S) e, fUp (sL S) (sN S) l), S.2)
def nbT (B : Nat → hB) (i : Nat) : Bool := decide (i % 8 ≠ 0) && bTak (B (i - 1))
def naT (B : Nat → hB) (i : Nat) : Bool := decide (i % 8 ≠ 7) && bTak (B (i + 1))
def nbrs (B : Nat → hB) (i : Nat) : Int32 := bI (nbT B i) + bI (naT B i)
def wets (B : Nat → hB) (i : Nat) : Int32 := bI (nbW B i) + bI (naW B i)
def sHang (S : hS) (p q h w : Int32) : Nat × Int32 × hS :=
  if isHk p q = false then (1, 0, S) else if isH S h = false then (1, 0, S) else if inR 0 100 w = false then (2, 0, S)
  else if bTak (sB S (ixOf p q)) = true then (3, 0, S)
  else (0, hIt (fCnt (fUp (sB S) (ixOf p q) (some (hNo h), w, w, 0, 0))) 0 40, setB S (fUp (sB S) (ixOf p q) (some (hNo h), w, w, 0, 0)))
def sTake (S : hS) (p q : Int32) : Nat × Int32 × hS :=
  if isHk p q = false then (1, 0, S) else if bTak (sB S (ixOf p q)) = false then (2, 0, S)
  else (0, bWet (sB S (ixOf p q)), setB S (fUp (sB S) (ixOf p q) emp))
def sMove (S : hS) (p q p2 q2 : Int32) : Nat × Int32 × hS :=
  if isHk p q = false then (1, 0, S) else if isHk p2 q2 = false then (1, 0, S) else if bTak (sB S (ixOf p q)) = false then (2, 0, S)
  else if bTak (sB S (ixOf p2 q2)) = true then (2, 0, S)
  else (0, nbrs (fUp (fUp (sB S) (ixOf p2 q2) (sB S (ixOf p q))) (ixOf p q) emp) (ixOf p2 q2), setB S (fUp (fUp (sB S) (ixOf p2 q2) (sB S (ixOf p q))) (ixOf p q) emp))
def sTurn (S : hS) (p : Int32) : Nat × Int32 × hS :=
  if inStr p = false then (1, 0, S) else (0, hIt (fTurn (hNo p) (sB S)) 0 40, setB S (vTurn (hNo p) (sB S)))
def sSetW (S : hS) (p : Int32) : Nat × Int32 × hS :=
  if inR 0 3 p = false then (1, 0, S) else (0, sWin S, (S.1, S.2.1, S.2.2.1, p, S.2.2.2.2))
def sOrd (S : hS) (h m w : Int32) : Nat × Int32 × hS :=
  if isH S h = false then (1, 0, S) else if inR 1 9 m = false then (2, 0, S) else if inR 0 60 w = false then (2, 0, S) else if ¬ sO S < 6 then (3, 0, S)
  else (0, nI (sO S), (S.1, (sO S + 1, fUp (sW S) (sO S) (hNo h), fUp (sM S) (sO S) m, fUp (sD S) (sO S) w, fUp (sG S) (sO S) 0), S.2.2))
abbrev flT : Type := (Nat → hB) × (Nat → Int32) × Int32
def flS (W : Nat → Option Nat) (Mn Dr : Nat → Int32) : Nat → flT → flT := fun i s =>
  ((gvR (W i) (Mn i) (Dr i) (s.2.1 i) s.1 40).1, fUp s.2.1 i (gvR (W i) (Mn i) (Dr i) (s.2.1 i) s.1 40).2.1, s.2.2 + (gvR (W i) (Mn i) (Dr i) (s.2.1 i) s.1 40).2.2)
def flR (W : Nat → Option Nat) (Mn Dr G : Nat → Int32) (B : Nat → hB) (n : Nat) : flT := hIt (flS W Mn Dr) (B, G, 0) n
def sFill (S : hS) : Int32 × hS :=
  ((flR (fun i => some (sW S i)) (sM S) (sD S) (sG S) (sB S) (sO S)).2.2,
   (S.1, (sO S, sW S, sM S, sD S, (flR (fun i => some (sW S i)) (sM S) (sD S) (sG S) (sB S) (sO S)).2.1), (flR (fun i => some (sW S i)) (sM S) (sD S) (sG S) (sB S) (sO S)).1, S.2.2.2))
def sAft (S : hS) (d dmp : Int32) : Nat → hB := vDays (sE S) (sL S) (sWin S) dmp (sB S) (hNo d)
def sPass (S : hS) (d dmp : Int32) : Nat × Int32 × hS :=
  if inR 1 60 d = false then (1, 0, S) else if inR 0 9 dmp = false then (1, 0, S)
  else (0, hIt (fBad (sAft S d dmp)) 0 40, (S.1, S.2.1, sAft S d dmp, S.2.2.2.1, S.2.2.2.2 + d))
def hnO (o : Option Nat) : Int32 := match o with | none => 0 | some j => nI j
def tellI (B : Nat → hB) (i : Nat) (what : Int32) : Int32 := bTel (hnO (B i).1) (B i) (nbrs B i) (wets B i) what
def sTold (S : hS) (p q w : Int32) : Nat × Int32 :=
  if isHk p q = false then (1, 0) else if inR 0 7 w = false then (1, 0) else (0, tellI (sB S) (ixOf p q) w)
def abI (S : hS) (j : Nat) (w : Int32) : Int32 :=
  if w = 0 then sE S j else if w = 1 then sL S j else if w = 2 then hIt (fCntO (sB S) (some j)) 0 40 else if w = 3 then hIt (fBadO (sB S) (some j)) 0 40 else hIt (fLst (sB S) (some j)) (-1) 40
def sAbout (S : hS) (h w : Int32) : Nat × Int32 := if isH S h = false then (1, 0) else if inR 0 4 w = false then (1, 0) else (0, abI S (hNo h) w)
def asI (S : hS) (i : Nat) (w : Int32) : Int32 :=
  if w = 0 then nI (sW S i) else if w = 1 then sM S i else if w = 2 then sD S i else if w = 3 then sG S i else hIt (fFit (sB S) (some (sW S i)) (sD S i)) 0 40
def sAsked (S : hS) (o w : Int32) : Nat × Int32 := if (decide (0 ≤ o) && decide (o < nI (sO S))) = false then (1, 0) else if inR 0 4 w = false then (1, 0) else (0, asI S (hNo o) w)
def cnI (S : hS) (w : Int32) : Int32 :=
  if w = 0 then sDay S else if w = 1 then nI (sN S) else if w = 2 then hIt (fCnt (sB S)) 0 40 else if w = 3 then hIt (fBad (sB S)) 0 40 else if w = 4 then nI (sO S)
  else if w = 5 then hIt (fun i s => if sG S i < sM S i then s else s + 1) 0 (sO S) else if w = 6 then hIt (fun i s => s + sG S i) 0 (sO S) else if w = 7 then sWin S else hIt (fSum (sB S)) 0 40
def sCount (S : hS) (w : Int32) : Nat × Int32 := if inR 0 8 w = false then (1, 0) else (0, cnI S w)
def fndU (P : Nat → Bool) : Nat → Nat → Int32
  | 0, _ => -1
  | n + 1, j => if P j = true then nI j else fndU P n (j + 1)
def sUntil (S : hS) (p q w dmp : Int32) : Nat × Int32 :=
  if isHk p q = false then (1, 0) else if inR 0 100 w = false then (2, 0) else if inR 0 9 dmp = false then (2, 0)
  else if bTak (sB S (ixOf p q)) = false then (0, -1)
  else (0, fndU (fun t => decide (bWet (vDays (sE S) (sL S) (sWin S) dmp (sB S) t (ixOf p q)) ≤ w)) 91 0)
def sFore (S : hS) (d dmp w : Int32) : Nat × Int32 :=
  if inR 1 60 d = false then (1, 0) else if inR 0 9 dmp = false then (1, 0) else if ¬ w = 3 ∧ ¬ w = 8 then (2, 0)
  else (0, if w = 3 then hIt (fBad (sAft S d dmp)) 0 40 else hIt (fSum (sAft S d dmp)) 0 40)
def scor (V : Nat → hB) : Int32 := hIt (fBad V) 0 40 * 10000 + hIt (fSum V) 0 40
def adS (f : Nat → Int32) : Nat → Int32 × Int32 → Int32 × Int32 := fun s b => if f s < b.2 then (nI s, f s) else b
def adR (f0 : Int32) (f : Nat → Int32) (n : Nat) : Int32 × Int32 := hIt (adS f) (-1, f0) n
def sAdv (S : hS) (d dmp : Int32) : Nat × Int32 :=
  if inR 1 30 d = false then (1, 0) else if inR 0 9 dmp = false then (1, 0)
  else (0, (adR (scor (sAft S d dmp)) (fun s => scor (vDays (sE S) (sL S) (sWin S) dmp (vTurn s (sB S)) (hNo d))) 5).1)
def dgS (x : Int32) (d : Int64) : Int64 := d * 31 + x.toInt64
def sDig (S : hS) : Int64 :=
  let d1 := hIt (fun w d => dgS (cnI S (nI w)) d) 1831 9
  let d2 := hIt (fun h d => hIt (fun w d => dgS (abI S h (nI w)) d) d 5) d1 (sN S)
  let d3 := hIt (fun o d => hIt (fun w d => dgS (asI S o (nI w)) d) d 5) d2 (sO S)
  hIt (fun s d => hIt (fun h d => hIt (fun w d => dgS (tellI (sB S) (s * 8 + h) (nI w)) d) d 6) d 8) d3 5
/-! two ways to hold the same bundles: hb names a herb there, where nothing hangs all is one -/
def RelV (hb : Nat → Nat) (V B : Nat → hB) : Prop := ∀ i, i < 40 → (V i).1 = (B i).1.map hb ∧ ((B i).1 ≠ none → (V i).2 = (B i).2)
def hbI (hb : Nat → Nat) (n : Nat) : Prop := ∀ i j, i < n → j < n → hb i = hb j → i = j
/-- what holds in every state that calls reach -/
def sInv (S : hS) : Prop := sN S ≤ 6 ∧ sO S ≤ 6 ∧ (∀ i, i < 40 → ∀ j, (sB S i).1 = some j → j < sN S ∧ 0 ≤ (sB S i).2.1 ∧ (sB S i).2.1 ≤ 100 ∧ 0 ≤ (sB S i).2.2.1 ∧ (sB S i).2.2.1 ≤ 100) ∧ (∀ i, i < sO S → sW S i < sN S) ∧ (∀ i, i < sO S → sG S i ≤ sM S i)
theorem RelV.tak {hb : Nat → Nat} {V B : Nat → hB} (h : RelV hb V B) {i : Nat} (hi : i < 40) : (V i).1.isSome = (B i).1.isSome := by
  rw [(h i hi).1]; cases (B i).1 <;> rfl
theorem RelV.val {hb : Nat → Nat} {V B : Nat → hB} (h : RelV hb V B) {i : Nat} (hi : i < 40) (ht : (B i).1.isSome = true) : (V i).2 = (B i).2 := (h i hi).2 (fun q => by rw [q] at ht; cases ht)
theorem RelV.rf (B : Nat → hB) : RelV id B B := fun i _ => ⟨by simp, fun _ => rfl⟩
theorem hIt_cg {f g : Nat → Int32 → Int32} {a : Int32} {n : Nat} (h : ∀ i, i < n → ∀ s, f i s = g i s) : hIt f a n = hIt g a n := hIt_congr (fun i x hi => h i hi x)
theorem RelV.cnt {hb : Nat → Nat} {V B : Nat → hB} (h : RelV hb V B) : hIt (fCnt V) 0 40 = hIt (fCnt B) 0 40 := hIt_cg fun i hi s => by
  show (if (V i).1.isSome = true then s + 1 else s) = if (B i).1.isSome = true then s + 1 else s
  rw [h.tak hi]
theorem RelV.bad {hb : Nat → Nat} {V B : Nat → hB} (h : RelV hb V B) : hIt (fBad V) 0 40 = hIt (fBad B) 0 40 := hIt_cg fun i hi s => by
  show (if ((V i).1.isSome && decide (0 < (V i).2.2.2.2)) = true then s + 1 else s) = if ((B i).1.isSome && decide (0 < (B i).2.2.2.2)) = true then s + 1 else s
  rw [h.tak hi]
  cases ht : (B i).1.isSome with
  | false => simp
  | true => rw [h.val hi ht]
theorem RelV.sum {hb : Nat → Nat} {V B : Nat → hB} (h : RelV hb V B) : hIt (fSum V) 0 40 = hIt (fSum B) 0 40 := hIt_cg fun i hi s => by
  show (if (V i).1.isSome = true then s + ((V i).2.1 + (V i).2.2.1) / 2 else s) = if (B i).1.isSome = true then s + ((B i).2.1 + (B i).2.2.1) / 2 else s
  rw [h.tak hi]
  cases ht : (B i).1.isSome with
  | false => simp
  | true => rw [h.val hi ht]
theorem RelV.is {hb : Nat → Nat} {V B : Nat → hB} {n : Nat} (h : RelV hb V B) (hI : hbI hb n) {i j : Nat} (hi : i < 40) (hw : ∀ j, (B i).1 = some j → j < n) (hj : j < n) : ((V i).1.isSome && decide ((V i).1 = some (hb j))) = ((B i).1.isSome && decide ((B i).1 = some j)) := by
  rw [h.tak hi, (h i hi).1]
  cases hb1 : (B i).1 with
  | none => rfl
  | some j2 =>
    have hj2 := hw j2 hb1
    by_cases e : j2 = j
    · subst e; simp
    · have : hb j2 ≠ hb j := fun q => e (hI _ _ hj2 hj q)
      simp [e, this]
theorem RelV.cntO {hb : Nat → Nat} {V B : Nat → hB} {n : Nat} (h : RelV hb V B) (hI : hbI hb n) (hw : ∀ i, i < 40 → ∀ j, (B i).1 = some j → j < n) {j : Nat} (hj : j < n) : hIt (fCntO V (some (hb j))) 0 40 = hIt (fCntO B (some j)) 0 40 := hIt_cg fun i hi s => by
  show (if ((V i).1.isSome && decide ((V i).1 = some (hb j))) = true then s + 1 else s) = if ((B i).1.isSome && decide ((B i).1 = some j)) = true then s + 1 else s
  rw [h.is hI hi (hw i hi) hj]
theorem RelV.badO {hb : Nat → Nat} {V B : Nat → hB} {n : Nat} (h : RelV hb V B) (hI : hbI hb n) (hw : ∀ i, i < 40 → ∀ j, (B i).1 = some j → j < n) {j : Nat} (hj : j < n) : hIt (fBadO V (some (hb j))) 0 40 = hIt (fBadO B (some j)) 0 40 := hIt_cg fun i hi s => by
  show (if ((V i).1.isSome && decide ((V i).1 = some (hb j))) = true then (if ((V i).1.isSome && decide (0 < (V i).2.2.2.2)) = true then s + 1 else s) else s) = if ((B i).1.isSome && decide ((B i).1 = some j)) = true then (if ((B i).1.isSome && decide (0 < (B i).2.2.2.2)) = true then s + 1 else s) else s
  rw [h.is hI hi (hw i hi) hj, h.tak hi]
  cases ht : (B i).1.isSome with
  | false => simp
  | true => rw [h.val hi ht]
theorem RelV.lst {hb : Nat → Nat} {V B : Nat → hB} {n : Nat} (h : RelV hb V B) (hI : hbI hb n) (hw : ∀ i, i < 40 → ∀ j, (B i).1 = some j → j < n) {j : Nat} (hj : j < n) : hIt (fLst V (some (hb j))) (-1) 40 = hIt (fLst B (some j)) (-1) 40 := hIt_cg fun i hi s => by
  unfold fLst
  rw [h.is hI hi (hw i hi) hj, h.tak hi]
  cases ht : (B i).1.isSome with
  | false => simp
  | true => rw [h.val hi ht]
theorem RelV.fit {hb : Nat → Nat} {V B : Nat → hB} {n : Nat} (h : RelV hb V B) (hI : hbI hb n) {i : Nat} (hi : i < 40) (hw : ∀ j, (B i).1 = some j → j < n) {j : Nat} (hj : j < n) (wet : Int32) : bFit (V i) (some (hb j)) wet = bFit (B i) (some j) wet := by
  unfold bFit
  rw [h.is hI hi hw hj]
  cases ht : (B i).1.isSome with
  | false => simp
  | true => rw [h.val hi ht]
theorem RelV.fits {hb : Nat → Nat} {V B : Nat → hB} {n : Nat} (h : RelV hb V B) (hI : hbI hb n) (hw : ∀ i, i < 40 → ∀ j, (B i).1 = some j → j < n) {j : Nat} (hj : j < n) (wet : Int32) : hIt (fFit V (some (hb j)) wet) 0 40 = hIt (fFit B (some j) wet) 0 40 := hIt_cg fun i hi s => by
  unfold fFit
  rw [h.fit hI hi (hw i hi) hj]
theorem RelV.up {hb : Nat → Nat} {V B : Nat → hB} (h : RelV hb V B) (k : Nat) {v b : hB} (h1 : v.1 = b.1.map hb) (h2 : b.1 ≠ none → v.2 = b.2) : RelV hb (fUp V k v) (fUp B k b) := fun i hi => by
  by_cases hik : i = k
  · subst hik; rw [fUp_s, fUp_s]; exact ⟨h1, h2⟩
  · rw [fUp_n hik, fUp_n hik]; exact h i hi
theorem RelV.tk {hb : Nat → Nat} {V B : Nat → hB} (h : RelV hb V B) {i : Nat} (hi : i < 40) : bTak (V i) = bTak (B i) := h.tak hi
theorem RelV.wt {hb : Nat → Nat} {V B : Nat → hB} (h : RelV hb V B) {i : Nat} (hi : i < 40) (ht : (B i).1.isSome = true) : bWet (V i) = bWet (B i) := by
  show ((V i).2.1 + (V i).2.2.1) / 2 = ((B i).2.1 + (B i).2.2.1) / 2
  rw [h.val hi ht]
theorem RelV.nbWe {hb : Nat → Nat} {V B : Nat → hB} (h : RelV hb V B) {i : Nat} (hi : i < 40) (ht : (B i).1.isSome = true) : nbW V i = nbW B i := by
  show (decide (i % 8 ≠ 0) && (bTak (V (i - 1)) && decide (bWet (V i) < bWet (V (i - 1))))) = (decide (i % 8 ≠ 0) && (bTak (B (i - 1)) && decide (bWet (B i) < bWet (B (i - 1)))))
  rw [h.tk (show i - 1 < 40 by omega), h.wt hi ht]
  cases hc : bTak (B (i - 1)) with
  | false => simp
  | true => rw [h.wt (show i - 1 < 40 by omega) hc]
theorem RelV.naWe {hb : Nat → Nat} {V B : Nat → hB} (h : RelV hb V B) {i : Nat} (hi : i < 40) (ht : (B i).1.isSome = true) : naW V i = naW B i := by
  show (decide (i % 8 ≠ 7) && (bTak (V (i + 1)) && decide (bWet (V i) < bWet (V (i + 1))))) = (decide (i % 8 ≠ 7) && (bTak (B (i + 1)) && decide (bWet (B i) < bWet (B (i + 1)))))
  by_cases h7 : i % 8 = 7
  · simp [h7]
  · rw [h.tk (show i + 1 < 40 by omega), h.wt hi ht]
    cases hc : bTak (B (i + 1)) with
    | false => simp
    | true => rw [h.wt (show i + 1 < 40 by omega) hc]
theorem RelV.nSpe {hb : Nat → Nat} {V B : Nat → hB} (h : RelV hb V B) {i : Nat} (hi : i < 40) : nSp V i = nSp B i := by
  have e : ∀ k, k < 40 → (bTak (V k) && decide (3 ≤ (V k).2.2.2.2)) = (bTak (B k) && decide (3 ≤ (B k).2.2.2.2)) := fun k hk => by
    rw [h.tk hk]
    cases hc : bTak (B k) with
    | false => simp
    | true => rw [h.val hk hc]
  unfold nSp
  rw [e (i - 1) (by omega)]
  by_cases h7 : i % 8 = 7
  · simp [h7]
  · rw [e (i + 1) (by omega)]
theorem RelV.nbre {hb : Nat → Nat} {V B : Nat → hB} (h : RelV hb V B) {i : Nat} (hi : i < 40) : nbrs V i = nbrs B i := by
  show bI (decide (i % 8 ≠ 0) && bTak (V (i - 1))) + bI (decide (i % 8 ≠ 7) && bTak (V (i + 1))) = bI (decide (i % 8 ≠ 0) && bTak (B (i - 1))) + bI (decide (i % 8 ≠ 7) && bTak (B (i + 1)))
  rw [h.tk (show i - 1 < 40 by omega)]
  by_cases h7 : i % 8 = 7
  · simp [h7]
  · rw [h.tk (show i + 1 < 40 by omega)]
theorem RelV.day {hb : Nat → Nat} {V B : Nat → hB} {n : Nat} (h : RelV hb V B) {eA lA eH lH : Nat → Int32} (hw : ∀ i, i < 40 → ∀ j, (B i).1 = some j → j < n) (he : ∀ j, j < n → eA (hb j) = eH j ∧ lA (hb j) = lH j) (win dmp : Int32) : RelV hb (vDay eA lA win dmp V) (vDay eH lH win dmp B) := fun i hi => by
  refine ⟨by rw [vDay_1, vDay_1]; exact (h i hi).1, fun hn => ?_⟩
  rw [vDay_1] at hn
  cases hb1 : (B i).1 with
  | none => exact absurd hb1 hn
  | some j =>
    have ht : (B i).1.isSome = true := by rw [hb1]; rfl
    have hv1 : (V i).1 = some (hb j) := by rw [(h i hi).1, hb1]; rfl
    unfold vDay
    rw [hv1, hb1]
    show (dBun (eA (hb j)) (lA (hb j)) win dmp V i).2 = (dBun (eH j) (lH j) win dmp B i).2
    unfold dBun dFrc
    simp only
    rw [h.nbWe hi ht, h.naWe hi ht, h.nSpe hi, h.val hi ht, (he j (hw i hi j hb1)).1, (he j (hw i hi j hb1)).2]
theorem RelV.days {hb : Nat → Nat} {V B : Nat → hB} {n : Nat} (h : RelV hb V B) {eA lA eH lH : Nat → Int32} (hw : ∀ i, i < 40 → ∀ j, (B i).1 = some j → j < n) (he : ∀ j, j < n → eA (hb j) = eH j ∧ lA (hb j) = lH j) (win dmp : Int32) : ∀ t, RelV hb (vDays eA lA win dmp V t) (vDays eH lH win dmp B t)
  | 0 => h
  | t + 1 => RelV.day (RelV.days h hw he win dmp t) (fun i hi j hj => hw i hi j (by rw [← hj]; exact (vDays_1 eH lH win dmp B i t).symm)) he win dmp
theorem RelV.turn {hb : Nat → Nat} {V B : Nat → hB} (h : RelV hb V B) (s : Nat) : RelV hb (vTurn s V) (vTurn s B) := fun i hi => by
  unfold vTurn
  rw [h.tak hi]
  by_cases hc : i / 8 = s ∧ (B i).1.isSome = true
  · rw [if_pos hc, if_pos hc]
    refine ⟨(h i hi).1, fun _ => ?_⟩
    show ((V i).2.2.1, (V i).2.1, (V i).2.2.2) = ((B i).2.2.1, (B i).2.1, (B i).2.2.2)
    rw [h.val hi hc.2]
  · rw [if_neg hc, if_neg hc]; exact h i hi
theorem RelV.turne {hb : Nat → Nat} {V B : Nat → hB} (h : RelV hb V B) (s : Nat) : hIt (fTurn s V) 0 40 = hIt (fTurn s B) 0 40 := hIt_cg fun i hi c => by
  show (if i / 8 = s ∧ (V i).1.isSome = true then c + 1 else c) = if i / 8 = s ∧ (B i).1.isSome = true then c + 1 else c
  rw [h.tak hi]
theorem RelV.scoe {hb : Nat → Nat} {V B : Nat → hB} (h : RelV hb V B) : scor V = scor B := by
  show hIt (fBad V) 0 40 * 10000 + hIt (fSum V) 0 40 = hIt (fBad B) 0 40 * 10000 + hIt (fSum B) 0 40
  rw [h.bad, h.sum]
theorem ixT_lt {t : Nat} (h : t < 40) : ixT t < 40 := by unfold ixT; omega
theorem gvR_1 {oh : Option Nat} {many wet got : Int32} {B : Nat → hB} {n : Nat} (hw : ∀ i, i < 40 → ∀ j, (B i).1 = some j → j < n) : ∀ t i, i < 40 → ∀ j, ((gvR oh many wet got B t).1 i).1 = some j → j < n
  | 0, i, hi, j, hj => hw i hi j hj
  | t + 1, i, hi, j, hj => by
    have ih := gvR_1 (oh := oh) (many := many) (wet := wet) (got := got) hw t
    have e : gvR oh many wet got B (t + 1) = gvS oh many wet t (gvR oh many wet got B t) := rfl
    rw [e] at hj
    unfold gvS at hj
    split at hj
    · have hj : (fUp (gvR oh many wet got B t).1 (ixT t) (none, 0, 0, 0, 0) i).1 = some j := hj
      by_cases hk : i = ixT t
      · subst hk; rw [show (fUp (gvR oh many wet got B t).1 (ixT t) (none, 0, 0, 0, 0)) (ixT t) = _ from fUp_s _ _ _] at hj; cases hj
      · rw [show (fUp (gvR oh many wet got B t).1 (ixT t) (none, 0, 0, 0, 0)) i = _ from fUp_n hk] at hj; exact ih i hi j hj
    · exact ih i hi j hj
theorem RelV.gv {hb : Nat → Nat} {V B : Nat → hB} {n : Nat} (h : RelV hb V B) (hI : hbI hb n) (hw : ∀ i, i < 40 → ∀ j, (B i).1 = some j → j < n) {j : Nat} (hj : j < n) (many wet got : Int32) : ∀ t, t ≤ 40 → RelV hb (gvR (some (hb j)) many wet got V t).1 (gvR (some j) many wet got B t).1 ∧ (gvR (some (hb j)) many wet got V t).2 = (gvR (some j) many wet got B t).2
  | 0, _ => ⟨h, rfl⟩
  | t + 1, ht => by
    obtain ⟨h1, h2⟩ := RelV.gv h hI hw hj many wet got t (by omega)
    have hlt : ixT t < 40 := ixT_lt (by omega)
    have e1 : gvR (some (hb j)) many wet got V (t + 1) = gvS (some (hb j)) many wet t (gvR (some (hb j)) many wet got V t) := rfl
    have e2 : gvR (some j) many wet got B (t + 1) = gvS (some j) many wet t (gvR (some j) many wet got B t) := rfl
    rw [e1, e2]
    unfold gvS
    rw [h1.fit hI hlt (gvR_1 hw t _ hlt) hj, h2]
    split
    · exact ⟨h1.up _ rfl (fun q => absurd rfl q), rfl⟩
    · exact ⟨h1, h2⟩
