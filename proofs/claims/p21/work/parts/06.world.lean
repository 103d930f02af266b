/-! ===== a world is a map: addresses to cells; a cell is writable or only read ===== -/
abbrev hE : Type := Bool × va_E
abbrev hM : Type := Nat → Option hE
def hU (M : hM) (a : Nat) (e : va_E) : hM := fun q => if q = a then some (true, e) else M q
theorem hU_s (M : hM) (a : Nat) (e : va_E) : hU M a e a = some (true, e) := by simp [hU]
theorem hU_n {M : hM} {a b : Nat} {e : va_E} (h : b ≠ a) : hU M a e b = M b := by simp [hU, h]
theorem hU_2 (M : hM) (a : Nat) (e e2 : va_E) : hU (hU M a e) a e2 = hU M a e2 := by
  funext q
  by_cases h : q = a
  · simp [hU, h]
  · simp [hU, h]
theorem hU_same {M : hM} {a : Nat} {e : va_E} (h : M a = some (true, e)) : hU M a e = M := by
  funext q
  by_cases hq : q = a
  · rw [hq, hU_s, h]
  · rw [hU_n hq]
/-- what is fixed of a launch's tables: classes, slots, the array classes, ArrayList's empty array; the script: its address, its length, its ints -/
abbrev hGam : Type := va_G × (Nat → ClassId) × Nat × (Nat × Nat × (Nat → Int32))
abbrev hTys (Γ : hGam) : List (ClassId × FieldType) := [(Γ.2.1 0, .int), (Γ.2.1 1, .boolean), (Γ.2.1 2, .object "HerbLoft$Hook"), (Γ.2.1 3, .object "java/lang/Object"), (Γ.2.1 4, .array .int), (Γ.2.1 5, .array (.array .int)), (Γ.2.1 6, .array .boolean)]
abbrev hK (Γ : hGam) (U : State) : Prop := va_K Γ.1 vwCl (hTys Γ) U
/-- the entry of ArrayList's empty array: only that it lies there is said here, the rest in hX -/
def hEr (Γ : hGam) (a : Nat) (x : hE) : Prop := a = Γ.2.2.1 ∧ x.1 = false ∧ ∃ g : Nat → Option Nat, x.2 = .inl (Γ.2.1 3, 0, .inr (.inr (.inr (.inr g))))
def hP (Γ : hGam) (M : hM) (H : Heap) : Prop := ∀ (a : Nat) (x : hE), M a = some x → va_at Γ.1 vwCl (a, x.2) H ∨ (hEr Γ a x ∧ a < H.size)
theorem hP.ltk {H H1 : Heap} {a : Nat} (h : a < H.size) (e : H1[a]? = H[a]?) : a < H1.size := by
  rw [Array.getElem?_eq_getElem h] at e
  exact (Array.getElem?_eq_some_iff.mp e).1
theorem hP.tr {Γ : hGam} {M : hM} {H : Heap} (h : hP Γ M H) {a : Nat} {e : va_E} (ha : M a = some (true, e)) : va_at Γ.1 vwCl (a, e) H := (h a _ ha).elim id (fun z => by
  obtain ⟨⟨-, q, -⟩, -⟩ := z
  cases q)
def hA (M : hM) (sz : Nat) : Nat → Prop := fun q => (∃ e, M q = some (true, e)) ∨ sz ≤ q
def hWr (A : Nat → Prop) (M : hM) : Prop := ∀ (a : Nat) (e : va_E), M a = some (true, e) → A a
theorem hP.lt {Γ : hGam} {M : hM} {H : Heap} (h : hP Γ M H) {a : Nat} {x : hE} (ha : M a = some x) : a < H.size := (h a x ha).elim (fun z => z.lt) (fun z => z.2)
theorem hP.fresh {Γ : hGam} {M : hM} {H : Heap} (h : hP Γ M H) {a : Nat} (ha : H.size ≤ a) : M a = none := by
  cases hm : M a with
  | none => rfl
  | some x => exact absurd (h.lt hm) (by omega)
theorem hP.kept {Γ : hGam} {M : hM} {H H1 : Heap} (h : hP Γ M H) (hq : ∀ q, q < H.size → H1[q]? = H[q]?) : hP Γ M H1 := fun a x hx => (h a x hx).imp (fun z => z.kept (hq a (h.lt hx))) (fun z => ⟨z.1, hP.ltk z.2 (hq a (h.lt hx))⟩)
theorem hP.put {Γ : hGam} {M : hM} {H H1 : Heap} (h : hP Γ M H) {a : Nat} {e : va_E} (he : va_at Γ.1 vwCl (a, e) H1) (oq : ∀ q : Nat, q ≠ a → H1[q]? = H[q]?) : hP Γ (hU M a e) H1 := by
  intro b x hx
  by_cases hb : b = a
  · subst hb
    rw [hU_s] at hx
    cases hx
    exact Or.inl he
  · rw [hU_n hb] at hx
    exact (h b x hx).imp (fun z => z.kept (oq b hb)) (fun z => ⟨z.1, hP.ltk z.2 (oq b hb)⟩)
theorem hWr.put {A : Nat → Prop} {M : hM} (h : hWr A M) {a : Nat} {e : va_E} (ha : A a) : hWr A (hU M a e) := by
  intro b e' hb
  by_cases hba : b = a
  · rw [hba]; exact ha
  · rw [hU_n hba] at hb; exact h b e' hb
theorem hP.tro {Γ : hGam} {M : hM} {H : Heap} (h : hP Γ M H) {a : Nat} {w : Bool} {r : Nat × List Value} (ha : M a = some (w, .inr r)) : va_at Γ.1 vwCl (a, .inr r) H := (h a _ ha).elim id (fun z => by
  obtain ⟨⟨-, -, g, q⟩, -⟩ := z
  cases q)
theorem hP.trn {Γ : hGam} {M : hM} {H : Heap} (h : hP Γ M H) {a : Nat} {w : Bool} {y : ClassId × vp_A} (ha : M a = some (w, .inl y)) (hn : ∀ g : Nat → Option Nat, y ≠ (Γ.2.1 3, 0, .inr (.inr (.inr (.inr g))))) : va_at Γ.1 vwCl (a, .inl y) H := (h a _ ha).elim id (fun z => by
  obtain ⟨⟨-, -, g, q⟩, -⟩ := z
  exact absurd (Sum.inl.inj q) (hn g))
theorem hP.one {Γ : hGam} {M : hM} {H : Heap} (h : hP Γ M H) {a : Nat} {w : Bool} {r : Nat × List Value} (ha : M a = some (w, .inr r)) : va_P Γ.1 vwCl [(a, .inr r)] H := by
  intro k q hk
  have hz : k < 1 := (List.getElem?_eq_some_iff.mp hk).1
  rw [show k = 0 by omega] at hk
  cases hk
  refine (h a _ ha).elim id (fun z => ?_)
  obtain ⟨⟨-, -, g, q⟩, -⟩ := z
  cases q
theorem hP.oneA {Γ : hGam} {M : hM} {H : Heap} (h : hP Γ M H) {a : Nat} {w : Bool} {y : ClassId × vp_A} (ha : M a = some (w, .inl y)) (hn : y.2.1 ≠ 0) : va_P Γ.1 vwCl [(a, .inl y)] H := by
  intro k q hk
  have hz : k < 1 := (List.getElem?_eq_some_iff.mp hk).1
  rw [show k = 0 by omega] at hk
  cases hk
  refine (h a _ ha).elim id (fun z => ?_)
  obtain ⟨⟨-, -, g, q⟩, -⟩ := z
  have q2 := Sum.inl.inj q
  rw [q2] at hn
  exact absurd rfl hn
/-! what of the start stays true beside the world: statics, text constants, links inside a nest -/
/-- arrays of arrays: what the tables say of their classes -/
def hAOA (t : FieldType) (U : State) : Prop := (Cond.arrayOver (.array t)).before #[] U = true
theorem hAOA.moved {t : FieldType} {u U : State} (hvm : u.vm.Alike U.vm) (h : hAOA t u) : hAOA t U := over_moved (a := #[]) (a' := #[]) hvm h
def hNcs (U : State) : Prop := hAOA .int U ∧ hAOA .boolean U ∧ hAOA (.array .int) U
theorem hNcs.moved {u U : State} (hvm : u.vm.Alike U.vm) (h : hNcs u) : hNcs U := ⟨h.1.moved hvm, h.2.1.moved hvm, h.2.2.moved hvm⟩
def hScr (Γ : hGam) (A : Nat → Prop) (U : State) (H : Heap) : Prop := va_T .int Γ.2.2.2.1 Γ.2.2.2.2.1 (fun j => .int (Γ.2.2.2.2.2 j)) A U H
def hX (Γ : hGam) (A : Nat → Prop) (U : State) (H : Heap) : Prop :=
  va_Z "java/util/ArrayList" "DEFAULTCAPACITY_EMPTY_ELEMENTDATA" "[Ljava/lang/Object;" (.ref Γ.2.2.1) A U H ∧
  vx_Zq Bundle.tN "UNASSIGNED_STACK" Bundle.steD A U H ∧ vx_Zq Bundle.tN "SUPPRESSED_SENTINEL" Bundle.listD A U H ∧
  (∀ q ∈ hStrs, ∃ sa : Nat, vk_R q.1 q.2.1 q.2.2 sa U) ∧ (∀ w ∈ hNest, va_Nw w U) ∧ va_AO "HerbLoft$Hook" U ∧ va_AO "java/lang/Object" U ∧ hNcs U ∧ va_T (.object "java/lang/Object") Γ.2.2.1 0 (fun _ => .null) A U H ∧ hScr Γ A U H
theorem hX.narrow {Γ : hGam} {A B : Nat → Prop} {U : State} {H : Heap} (h : hX Γ A U H) (hAB : ∀ q, B q → A q) : hX Γ B U H :=
  ⟨h.1.narrow hAB, h.2.1.narrow hAB, h.2.2.1.narrow hAB, h.2.2.2.1, h.2.2.2.2.1, h.2.2.2.2.2.1, h.2.2.2.2.2.2.1, h.2.2.2.2.2.2.2.1, h.2.2.2.2.2.2.2.2.1.narrow hAB, va_T.narrow h.2.2.2.2.2.2.2.2.2 hAB⟩
theorem hX.kept {Γ : hGam} {A : Nat → Prop} {U : State} {H H1 : Heap} (h : hX Γ A U H) (hq : ∀ a : Nat, a < H.size → ¬ A a → H1[a]? = H[a]?) : hX Γ A U H1 :=
  ⟨h.1.kept hq, h.2.1.kept hq, h.2.2.1.kept hq, h.2.2.2.1, h.2.2.2.2.1, h.2.2.2.2.2.1, h.2.2.2.2.2.2.1, h.2.2.2.2.2.2.2.1, h.2.2.2.2.2.2.2.2.1.kept hq, va_T.kept h.2.2.2.2.2.2.2.2.2 hq⟩
theorem hX.warm {Γ : hGam} {A : Nat → Prop} {s U : State} {H : Heap} (hW : s.WarmedH U.vm) (h : hX Γ A s H) : hX Γ A U H :=
  ⟨h.1.moved hW.alike, h.2.1.moved hW.alike, h.2.2.1.moved hW.alike, fun q hq => (h.2.2.2.1 q hq).imp fun _ hs => vk_R.warm hW hs, fun w hw => hNest_warm hW w hw (h.2.2.2.2.1 w hw), va_AO.moved hW.alike h.2.2.2.2.2.1, va_AO.moved hW.alike h.2.2.2.2.2.2.1, hNcs.moved hW.alike h.2.2.2.2.2.2.2.1, va_T.moved hW.alike h.2.2.2.2.2.2.2.2.1, va_T.moved hW.alike h.2.2.2.2.2.2.2.2.2⟩
/-! ===== a method's standing ===== -/
abbrev hCtx : Type := Program × Launch × Env × Room × State × MethodId × Array Value × List Frame × Method × Code
abbrev kP (k : hCtx) : Program := k.1
abbrev kL (k : hCtx) : Launch := k.2.1
abbrev kE (k : hCtx) : Env := k.2.2.1
abbrev kR (k : hCtx) : Room := k.2.2.2.1
abbrev kS (k : hCtx) : State := k.2.2.2.2.1
abbrev kM (k : hCtx) : MethodId := k.2.2.2.2.2.1
abbrev kA (k : hCtx) : Array Value := k.2.2.2.2.2.2.1
abbrev kB (k : hCtx) : List Frame := k.2.2.2.2.2.2.2.1
abbrev kT (k : hCtx) : Method := k.2.2.2.2.2.2.2.2.1
abbrev kC (k : hCtx) : Code := k.2.2.2.2.2.2.2.2.2
def hC (Γ : hGam) (l : Launch) (k : hCtx) (own nm : String) (cc : ByteArray) (nL : Nat) (ret : Option FieldType) (rm : Room) (A : Nat → Prop) : Prop :=
  (kP k).tables.exec = Jvm.exec ∧ (kC k).code = cc ∧ (kC k).maxLocals = nL ∧ (kS k).vm.findClass own = some (kM k).cls ∧ (∀ w ∈ hTbl, w.before (kA k) (kS k) = true) ∧ hK Γ (kS k) ∧ hX Γ A (kS k) (kS k).heap ∧ (∀ q, (kS k).heap.size ≤ q → A q) ∧ (kT k).locks = false ∧ kR k = rm ∧ kL k = l ∧ (kT k).name = nm ∧ (kT k).sig.returnType = ret
section hCs
variable {Γ : hGam} {l : Launch} {k : hCtx} {own nm : String} {cc : ByteArray} {nL : Nat} {ret : Option FieldType} {rm : Room} {A : Nat → Prop}
theorem hC.ex (C : hC Γ l k own nm cc nL ret rm A) : (kP k).tables.exec = Jvm.exec := C.1
theorem hC.cd (C : hC Γ l k own nm cc nL ret rm A) : (kC k).code = cc := C.2.1
theorem hC.ml (C : hC Γ l k own nm cc nL ret rm A) : (kC k).maxLocals = nL := C.2.2.1
theorem hC.ow (C : hC Γ l k own nm cc nL ret rm A) : (kS k).vm.findClass own = some (kM k).cls := C.2.2.2.1
theorem hC.ts (C : hC Γ l k own nm cc nL ret rm A) : ∀ w ∈ hTbl, w.before (kA k) (kS k) = true := C.2.2.2.2.1
theorem hC.hk (C : hC Γ l k own nm cc nL ret rm A) : hK Γ (kS k) := C.2.2.2.2.2.1
theorem hC.hx (C : hC Γ l k own nm cc nL ret rm A) : hX Γ A (kS k) (kS k).heap := C.2.2.2.2.2.2.1
theorem hC.ha (C : hC Γ l k own nm cc nL ret rm A) : ∀ q, (kS k).heap.size ≤ q → A q := C.2.2.2.2.2.2.2.1
theorem hC.lk (C : hC Γ l k own nm cc nL ret rm A) : (kT k).locks = false := C.2.2.2.2.2.2.2.2.1
theorem hC.ro (C : hC Γ l k own nm cc nL ret rm A) : kR k = rm := C.2.2.2.2.2.2.2.2.2.1
theorem hC.la (C : hC Γ l k own nm cc nL ret rm A) : kL k = l := C.2.2.2.2.2.2.2.2.2.2.1
theorem hC.na (C : hC Γ l k own nm cc nL ret rm A) : (kT k).name = nm := C.2.2.2.2.2.2.2.2.2.2.2.1
theorem hC.re (C : hC Γ l k own nm cc nL ret rm A) : (kT k).sig.returnType = ret := C.2.2.2.2.2.2.2.2.2.2.2.2
end hCs
/-- the locals by their places; a place of which nothing is known is none -/
def hLoc (ls : Array Slot) (L : List (Option Value)) : Prop := ls.size = L.length ∧ lv_wf ls ∧ ∀ (i : Nat) (v : Value), L[i]? = some (some v) → ls[i]? = some (.val v)
def hG (Γ : hGam) (k : hCtx) (A : Nat → Prop) (Q : State → Prop) (M : hM) (n z pc : Nat) (L : List (Option Value)) (st : List Value) : Prop :=
  ∀ (H : Heap) (locs : List Loc) (ls : Array Slot), hP Γ M H → hWr A M → va_S A (kS k).heap H locs → hLoc ls L →
    W (kP k) (kL k) (kE k) (kR k) (kS k) (kM k) (kA k) (kB k) (kT k) (kC k) H locs n z Q (F0 (kM k) pc ls st)
def hLv (L : List (Option Value)) : List (Nat × Value) := (List.range L.length).filterMap (fun i => (L[i]?.join).map (fun v => (i, v)))
theorem hLv_mem {L : List (Option Value)} {i : Nat} {v : Value} (h : L[i]? = some (some v)) : (i, v) ∈ hLv L := by
  refine List.mem_filterMap.mpr ⟨i, List.mem_range.mpr (List.getElem?_eq_some_iff.mp h).1, ?_⟩
  rw [h]; rfl
theorem hLv_of {L : List (Option Value)} {q : Nat × Value} (h : q ∈ hLv L) : L[q.1]? = some (some q.2) := by
  obtain ⟨i, -, hi⟩ := List.mem_filterMap.mp h
  cases hl : L[i]? with
  | none => rw [hl] at hi; cases hi
  | some o =>
    cases o with
    | none => rw [hl] at hi; cases hi
    | some v =>
      rw [hl] at hi
      have : (i, v) = q := by simpa using hi
      rw [← this]; exact hl
theorem hLoc.has {ls : Array Slot} {L : List (Option Value)} (h : hLoc ls L) : lv_has ls L.length (hLv L) := ⟨h.1, h.2.1, fun q hq => h.2.2 q.1 q.2 (hLv_of hq)⟩
/-- no wide value stands there -/
def hNw : Option Value → Bool
  | some (.long _) => false
  | some (.double _) => false
  | _ => true
theorem hNw_cat {v : Value} (h : hNw (some v) = true) : (v.category == 2) = false := by
  cases v <;> first | rfl | (simp [hNw] at h)
def hPrev (L : List (Option Value)) : Nat → Bool
  | 0 => true
  | j + 1 => match L[j]? with
    | some o => hNw o
    | none => true
theorem hLoc.store {ls' : Array Slot} {L : List (Option Value)} {i : Nat} {v : Value} (hp : hPrev L i = true)
    (h : lv_has ls' L.length ((i, v) :: (hLv L).filter (fun q => !(q.1 == i) && !(q.1 + 1 == i && q.2.category == 2)))) : hLoc ls' (L.set i (some v)) := by
  refine ⟨by rw [List.length_set]; exact h.1, h.2.1, fun j w hw => ?_⟩
  by_cases hj : j = i
  · subst hj
    have hlt : j < L.length := by
      have := (List.getElem?_eq_some_iff.mp hw).1
      rwa [List.length_set] at this
    rw [List.getElem?_set_self hlt] at hw
    cases hw
    exact h.2.2 (j, v) List.mem_cons_self
  · rw [List.getElem?_set_ne (Ne.symm hj)] at hw
    refine h.2.2 (j, w) (List.mem_cons_of_mem _ (List.mem_filter.mpr ⟨hLv_mem hw, ?_⟩))
    have h1 : (j == i) = false := by simpa using hj
    show (!(j == i) && !(j + 1 == i && w.category == 2)) = true
    rw [h1]
    by_cases hji : j + 1 = i
    · subst hji
      have h2 : hNw (some w) = true := by
        have hp' : (match L[j]? with | some o => hNw o | none => true) = true := hp
        rw [hw] at hp'
        exact hp'
      rw [hNw_cat h2]; simp
    · have h3 : (j + 1 == i) = false := by simpa using hji
      rw [h3]; rfl
theorem hLoc.store2 {ls' : Array Slot} {L : List (Option Value)} {i : Nat} {v : Value} (hp : hPrev L i = true)
    (h : lv_has ls' L.length ((i, v) :: (hLv L).filter (fun q => !(q.1 == i) && (!(q.1 == i + 1) && !(q.1 + 1 == i && q.2.category == 2))))) : hLoc ls' ((L.set i (some v)).set (i + 1) none) := by
  refine ⟨by rw [List.length_set, List.length_set]; exact h.1, h.2.1, fun j w hw => ?_⟩
  by_cases hj1 : j = i + 1
  · subst hj1
    have hlt := (List.getElem?_eq_some_iff.mp hw).1
    rw [List.length_set] at hlt
    rw [List.getElem?_set_self hlt] at hw
    cases hw
  · rw [List.getElem?_set_ne (Ne.symm hj1)] at hw
    by_cases hj : j = i
    · subst hj
      have hlt : j < L.length := by
        have := (List.getElem?_eq_some_iff.mp hw).1
        rwa [List.length_set] at this
      rw [List.getElem?_set_self hlt] at hw
      cases hw
      exact h.2.2 (j, v) List.mem_cons_self
    · rw [List.getElem?_set_ne (Ne.symm hj)] at hw
      refine h.2.2 (j, w) (List.mem_cons_of_mem _ (List.mem_filter.mpr ⟨hLv_mem hw, ?_⟩))
      have h1 : (j == i) = false := by simpa using hj
      have h0 : (j == i + 1) = false := by simpa using hj1
      show (!(j == i) && (!(j == i + 1) && !(j + 1 == i && w.category == 2))) = true
      rw [h1, h0]
      by_cases hji : j + 1 = i
      · subst hji
        have h2 : hNw (some w) = true := by
          have hp' : (match L[j]? with | some o => hNw o | none => true) = true := hp
          rw [hw] at hp'
          exact hp'
        rw [hNw_cat h2]; simp
      · have h3 : (j + 1 == i) = false := by simpa using hji
        rw [h3]; rfl
theorem hLoc.weak {ls : Array Slot} {L L' : List (Option Value)} (h : hLoc ls L) (hn : L'.length = L.length) (hl : ∀ (i : Nat) (v : Value), L'[i]? = some (some v) → L[i]? = some (some v)) : hLoc ls L' := ⟨h.1.trans hn.symm, h.2.1, fun i v hv => h.2.2 i v (hl i v hv)⟩
