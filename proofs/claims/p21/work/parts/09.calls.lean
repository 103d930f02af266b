/-! ===== contracts over map worlds ===== -/
def hBx (Γ : hGam) (M : hM) (sz : Nat) : State → Prop := fun U => U.heap.size = sz ∧ hP Γ M U.heap ∧ hK Γ U ∧ hX Γ (hA M sz) U U.heap
def hQ (Γ : hGam) (M : hM) (sz : Nat) (post : Option Value → hM → Prop) : Array Value → State → Outcome → State → Prop := fun _ st oc t => (∃ (r : Option Value) (M1 : hM), oc = .returned r ∧ post r M1 ∧ hP Γ M1 t.heap ∧ hWr (hA M sz) M1) ∧ va_F (hA M sz) st t
/-- a throw changes nothing of the world -/
def hXC (Γ : hGam) (M : hM) (sz : Nat) (px : String → Prop) : String → State → State → Prop := fun E st t => px E ∧ hP Γ M t.heap ∧ va_F (hA M sz) st t
def hMet (Γ : hGam) (l : Launch) (y : MethodName) (cc : ByteArray) (maxL : Nat) (ret : Option FieldType) (rm : Room) (as : List Value) (M : hM) (post : Option Value → hM → Prop) : Prop :=
  ∀ sz : Nat, Met l y (.code y cc maxL ret :: hTbl) rm (va_Pc as (hBx Γ M sz)) (hQ Γ M sz post) rm.cells rm.slots (hA M sz)
def hMetX (Γ : hGam) (l : Launch) (y : MethodName) (cc : ByteArray) (maxL : Nat) (ret : Option FieldType) (rm : Room) (as : List Value) (M : hM) (post : Option Value → hM → Prop) (px : String → Prop) : Prop :=
  ∀ sz : Nat, vx_Met l y (.code y cc maxL ret :: hTbl) rm (va_Pc as (hBx Γ M sz)) (hQ Γ M sz post) (hXC Γ M sz px) rm.cells rm.slots (hA M sz)
theorem hBx_blind {Γ : hGam} {as : List Value} {M : hM} {sz : Nat} : FrameBlind (va_Pc as (hBx Γ M sz)) := fun a U g mk q => ⟨q.1, q.2.1, q.2.2.1, va_K.moved (u := U) (U := U.calling g mk a) (Vm.Alike.refl U.vm) q.2.2.2.1, hX.warm (s := U) (U := U.calling g mk a) (State.WarmedH.refl U) q.2.2.2.2⟩
/-! the kinds of answers -/
def hpI (pi : Int32 → hM → Prop) : Option Value → hM → Prop := fun r M1 => ∃ x : Int32, r = some (.int x) ∧ pi x M1
def hpL (pi : Int64 → hM → Prop) : Option Value → hM → Prop := fun r M1 => ∃ x : Int64, r = some (.long x) ∧ pi x M1
def hpV (pv : hM → Prop) : Option Value → hM → Prop := fun r M1 => r = none ∧ pv M1
def hpQ (pq : Option Nat → hM → Prop) : Option Value → hM → Prop := fun r M1 => ∃ o : Option Nat, r = some (va_rf o) ∧ pq o M1
/-- reads only: the answer is e -/
abbrev hpP (M : hM) (e : Int32) : Option Value → hM → Prop := hpI (fun x M1 => x = e ∧ M1 = M)
abbrev hpO (M : hM) (o : Option Nat) : Option Value → hM → Prop := hpQ (fun x M1 => x = o ∧ M1 = M)
abbrev hEnd (Γ : hGam) (k : hCtx) (M0 : hM) (post : Option Value → hM → Prop) (mc ms : Nat) : State → Prop := MQ (kB k) (hQ Γ M0 (kS k).heap.size post) (kA k) (kS k) mc ms (hA M0 (kS k).heap.size)
abbrev hEndX (Γ : hGam) (k : hCtx) (M0 : hM) (post : Option Value → hM → Prop) (px : String → Prop) (mc ms : Nat) : State → Prop := vx_MQ (kB k) (hQ Γ M0 (kS k).heap.size post) (hXC Γ M0 (kS k).heap.size px) (kA k) (kS k) mc ms (hA M0 (kS k).heap.size)
theorem h_args : ∀ (as : List Value) (n i0 : Nat), (∀ v ∈ as, v.category = 1) → ∀ (j : Nat) (v : Value), (as.map some ++ List.replicate n none)[j]? = some (some v) → (i0 + j, v) ∈ lv_args i0 as
  | [], n, i0, _, j, v, h => by
    have h1 := List.mem_of_getElem? h
    simp at h1
  | a :: as, n, i0, hc, j, v, h => by
    have ha : a.category = 1 := hc a List.mem_cons_self
    cases j with
    | zero =>
      simp at h
      subst h
      exact List.mem_cons_self
    | succ j =>
      have h2 := h_args as n (i0 + 1) (fun w hw => hc w (List.mem_cons_of_mem _ hw)) j v (by simpa using h)
      refine List.mem_cons_of_mem _ ?_
      rw [if_neg (by omega), show i0 + (j + 1) = i0 + 1 + j by omega]
      exact h2
theorem h_sl : ∀ (as : List Value), (∀ v ∈ as, v.category = 1) → (lg_sl as).length = as.length
  | [], _ => rfl
  | a :: as, hc => by
    have ha : a.category = 1 := hc a List.mem_cons_self
    have h2 := h_sl as (fun w hw => hc w (List.mem_cons_of_mem _ hw))
    show ((if a.category = 2 then [Slot.val a, Slot.second] else [Slot.val a]) ++ lg_sl as).length = _
    rw [if_neg (by omega), List.length_append, h2]
    simp
    omega
theorem h_entry {as : List Value} {n : Nat} (hlen : as.length ≤ n) (hc : ∀ v ∈ as, v.category = 1) : hLoc ((lg_sl as ++ List.replicate (n - (lg_sl as).length) Slot.unset).toArray) (as.map some ++ List.replicate (n - as.length) none) := by
  have h := lv_entry as (n := n) (by rw [h_sl as hc]; exact hlen)
  refine ⟨h.1.trans (by simp; omega), h.2.1, fun i v hv => ?_⟩
  have := h_args as _ 0 hc i v hv
  rw [Nat.zero_add] at this
  exact h.2.2 (i, v) this
def hCat (as : List Value) : Prop := ∀ v ∈ as, v.category = 1
theorem hCat_nil : hCat [] := fun v h => nomatch h
theorem hCat_cons {v : Value} {as : List Value} (hv : v.category = 1) (h : hCat as) : hCat (v :: as) := fun w hw => (List.mem_cons.mp hw).elim (fun e => by rw [e]; exact hv) (h w)
theorem hMet_of {Γ : hGam} {l : Launch} {own nm desc : String} {cc : ByteArray} {maxL : Nat} {ret : Option FieldType} {rm : Room} {as : List Value} {M : hM} {post : Option Value → hM → Prop} (hy : plainName own = true) (hlen : as.length ≤ maxL) (hc : hCat as)
    (body : ∀ k : hCtx, hC Γ l k own nm cc maxL ret rm (hA M (kS k).heap.size) → hG Γ k (hA M (kS k).heap.size) (hEnd Γ k M post rm.cells rm.slots) M 0 0 0 (as.map some ++ List.replicate (maxL - as.length) none) []) : hMet Γ l ⟨own, nm, desc⟩ cc maxL ret rm as M post := by
  intro sz
  refine Met.ofW (cc := cc) (maxL := maxL) (ret := ret) hy rfl ?_
  intro p e s m args below meth c s₁ B hml hv
  obtain ⟨rfl, rfl, hP1, hK1, hX1⟩ := hv
  have hts := atoms_spec B.pre
  have K := body (p, l, e, rm, s, m, as.toArray, below, meth, c) ⟨B.exec, B.bytes, hml, findClass_of_methodNamed B.named, fun w hw => hts w (List.mem_cons_of_mem _ hw), hK1, hX1, fun q h => Or.inr h, B.notSynchronized, rfl, rfl, (name_of_methodNamed B.named B.method).1, B.returns⟩
  rw [lg_entry_eq]
  exact K s.heap [] _ hP1 (fun a x h => Or.inl ⟨x, h⟩) va_S.rf (h_entry hlen hc)
theorem hMetX_of {Γ : hGam} {l : Launch} {own nm desc : String} {cc : ByteArray} {maxL : Nat} {ret : Option FieldType} {rm : Room} {as : List Value} {M : hM} {post : Option Value → hM → Prop} {px : String → Prop} (hy : plainName own = true) (hlen : as.length ≤ maxL) (hc : hCat as)
    (body : ∀ k : hCtx, hC Γ l k own nm cc maxL ret rm (hA M (kS k).heap.size) → (∀ x ∈ (kC k).exceptionTable.toList, False) → hG Γ k (hA M (kS k).heap.size) (hEndX Γ k M post px rm.cells rm.slots) M 0 0 0 (as.map some ++ List.replicate (maxL - as.length) none) []) : hMetX Γ l ⟨own, nm, desc⟩ cc maxL ret rm as M post px := by
  intro sz
  refine vx_ofW (cc := cc) (maxL := maxL) (ret := ret) hy rfl ?_
  intro p e s m args below meth c s₁ B hml hno hv
  obtain ⟨rfl, rfl, hP1, hK1, hX1⟩ := hv
  have hts := atoms_spec B.pre
  have K := body (p, l, e, rm, s, m, as.toArray, below, meth, c) ⟨B.exec, B.bytes, hml, findClass_of_methodNamed B.named, fun w hw => hts w (List.mem_cons_of_mem _ hw), hK1, hX1, fun q h => Or.inr h, B.notSynchronized, rfl, rfl, (name_of_methodNamed B.named B.method).1, B.returns⟩ hno
  rw [lg_entry_eq]
  exact K s.heap [] _ hP1 (fun a x h => Or.inl ⟨x, h⟩) va_S.rf (h_entry hlen hc)
section hRows3
variable {Γ : hGam} {l : Launch} {k : hCtx} {own nm : String} {cc : ByteArray} {nL : Nat} {ret : Option FieldType} {rm : Room} {A : Nat → Prop} {Q : State → Prop} {M M0 : hM} {n z pc mc ms : Nat} {L : List (Option Value)} {st : List Value} {px : String → Prop}
/-- a method that may throw, on a path where it returns -/
theorem g_x {post : Option Value → hM → Prop} (kk : hG Γ k A (hEnd Γ k M0 post mc ms) M n z pc L st) : hG Γ k A (hEndX Γ k M0 post px mc ms) M n z pc L st :=
  fun H locs ls h1 h2 h3 h4 => vx_ret (kk H locs ls h1 h2 h3 h4)
theorem hNarB (b : Bool) : narrow .boolean (.int (bI b)) = .int (bI b) := by cases b <;> rfl
theorem g_iret {x : Int32} {pi : Int32 → hM → Prop} (C : hC Γ l k own nm cc nL (some .int) rm (hA M0 (kS k).heap.size)) (d : decode cc pc = .ok (.ireturn, 1)) (hp : pi x M) (hn : n ≤ mc) (hz : z ≤ ms) : hG Γ k (hA M0 (kS k).heap.size) (hEnd Γ k M0 (hpI pi) mc ms) M n z pc L ([.int x]) := by
  intro H locs ls h1 h2 h3 h4
  refine W.widen hn hz ?_
  exact W.iret C.ex C.cd C.re (fun t ht hW => ⟨⟨_, M, rfl, ⟨_, rfl, hp⟩, by rw [ht]; exact h1, h2⟩, h3.F ht⟩) h3.2.2 d C.lk
theorem g_zret {x : Int32} {pi : Int32 → hM → Prop} (C : hC Γ l k own nm cc nL (some .boolean) rm (hA M0 (kS k).heap.size)) (d : decode cc pc = .ok (.ireturn, 1)) (hx : narrow .boolean (.int x) = .int x) (hp : pi x M) (hn : n ≤ mc) (hz : z ≤ ms) : hG Γ k (hA M0 (kS k).heap.size) (hEnd Γ k M0 (hpI pi) mc ms) M n z pc L ([.int x]) := by
  intro H locs ls h1 h2 h3 h4
  refine W.widen hn hz ?_
  exact W.zret C.ex C.cd C.re hx (fun t ht hW => ⟨⟨_, M, rfl, ⟨_, rfl, hp⟩, by rw [ht]; exact h1, h2⟩, h3.F ht⟩) h3.2.2 d C.lk
theorem g_lret {x : Int64} {pi : Int64 → hM → Prop} (C : hC Γ l k own nm cc nL (some .long) rm (hA M0 (kS k).heap.size)) (d : decode cc pc = .ok (.lreturn, 1)) (hp : pi x M) (hn : n ≤ mc) (hz : z ≤ ms) : hG Γ k (hA M0 (kS k).heap.size) (hEnd Γ k M0 (hpL pi) mc ms) M n z pc L ([.long x]) := by
  intro H locs ls h1 h2 h3 h4
  refine W.widen hn hz ?_
  exact W.lret C.ex C.cd C.re (fun t ht hW => ⟨⟨_, M, rfl, ⟨_, rfl, hp⟩, by rw [ht]; exact h1, h2⟩, h3.F ht⟩) h3.2.2 d C.lk
theorem g_vret {pv : hM → Prop} (C : hC Γ l k own nm cc nL none rm (hA M0 (kS k).heap.size)) (d : decode cc pc = .ok (.return_, 1)) (hp : pv M) (hn : n ≤ mc) (hz : z ≤ ms) : hG Γ k (hA M0 (kS k).heap.size) (hEnd Γ k M0 (hpV pv) mc ms) M n z pc L ([]) := by
  intro H locs ls h1 h2 h3 h4
  refine W.widen hn hz ?_
  exact W.vret C.ex C.cd C.re (fun t ht hW => ⟨⟨_, M, rfl, ⟨rfl, hp⟩, by rw [ht]; exact h1, h2⟩, h3.F ht⟩) h3.2.2 d C.lk
theorem g_aret {rt : FieldType} {v : Value} {o : Option Nat} {pq : Option Nat → hM → Prop} (C : hC Γ l k own nm cc nL (some rt) rm (hA M0 (kS k).heap.size)) (d : decode cc pc = .ok (.areturn, 1)) (hrt : (∃ n, rt = .object n) ∨ ∃ t, rt = .array t) (hv : v = va_rf o) (hp : pq o M) (hn : n ≤ mc) (hz : z ≤ ms) : hG Γ k (hA M0 (kS k).heap.size) (hEnd Γ k M0 (hpQ pq) mc ms) M n z pc L ([v]) := by
  subst hv
  intro H locs ls h1 h2 h3 h4
  refine W.widen hn hz ?_
  exact W.aret C.ex C.cd C.re hrt (va_rf_or o) (fun t ht hW => ⟨⟨_, M, rfl, ⟨_, rfl, hp⟩, by rw [ht]; exact h1, h2⟩, h3.F ht⟩) h3.2.2 d C.lk
/-! calls -/
def hYF (y : MethodName) (bytes : ByteArray) (maxL : Nat) (rt : Option FieldType) (na : Nat) : Prop :=
  Cond.code y bytes maxL rt ∈ hTbl ∧ Cond.initialized y.cls ∈ hTbl ∧ (y.cls ≠ "java/lang/invoke/MethodHandle" ∧ y.cls ≠ "java/lang/invoke/VarHandle") ∧ (parseMethodDescriptor y.desc).map (fun d => d.parameters.length) = some na
def hYV (y : MethodName) (bytes : ByteArray) (maxL : Nat) (rt : Option FieldType) (na : Nat) : Prop := hYF y bytes maxL rt na ∧ Cond.instanceMethod y ∈ hTbl ∧ Cond.selects y.cls y y ∈ hTbl
def hYS (y : MethodName) (bytes : ByteArray) (maxL : Nat) (rt : Option FieldType) (na : Nat) : Prop := hYF y bytes maxL rt na ∧ Cond.static y ∈ hTbl
def hYI (y : MethodName) (bytes : ByteArray) (maxL : Nat) (na : Nat) : Prop := hYF y bytes maxL none na ∧ Cond.instanceMethod y ∈ hTbl ∧ y.name = "<init>"
section Cl
variable {y : MethodName} {bytes : ByteArray} {maxL na index : Nat} {rt : Option FieldType} {rm' : Room} {post : Option Value → hM → Prop}
theorem hYF.good (Y : hYF y bytes maxL rt na) : GoodIn (.code y bytes maxL rt :: hTbl) (.code y bytes maxL rt :: hTbl) := fun w hw => ⟨hw, by
  rcases List.mem_cons.mp hw with rfl | hw
  · exact good_of_word (hTbl_good _ Y.1)
  · exact good_of_word (hTbl_good w hw)⟩
theorem hYF.ts (C : hC Γ l k own nm cc nL ret rm A) (Y : hYF y bytes maxL rt na) : ∀ w ∈ (Cond.code y bytes maxL rt :: hTbl), w.before (kA k) (kS k) = true := fun w hw => by
  rcases List.mem_cons.mp hw with rfl | hw
  · exact C.ts _ Y.1
  · exact C.ts _ hw
theorem hYF.cb (C : hC Γ l k own nm cc nL ret rm A) (Y : hYF y bytes maxL rt na) (hl : Cond.methodLink own index y ∈ hTbl) (hR : rm'.frames + 1 ≤ rm.frames ∧ 8 + (maxL + 11) + rm'.locals ≤ rm.locals) : CallB (kR k) (kS k) (kA k) own index y bytes maxL rt (.code y bytes maxL rt :: hTbl) rm' rm'.cells rm'.slots na :=
  callB_of na (hYF.ts C Y) Y.good rfl rfl rfl (C.ts _ Y.2.1) (C.ts _ hl) ⟨Y.2.2.1.1, Y.2.2.1.2, Y.2.2.2⟩ (by rw [C.ro]; exact hR)
theorem hBx_at {H : Heap} {locs : List Loc} (C : hC Γ l k own nm cc nL ret rm A) (h1 : hP Γ M H) (h2 : hWr A M) (h3 : va_S A (kS k).heap H locs) : ∀ U : State, U.heap = H → (kS k).WarmedH U.vm → hBx Γ M H.size U := fun U hU hW => by
  have hsub : ∀ q, hA M H.size q → A q := fun q h => by
    rcases h with ⟨x, h⟩ | h
    · exact h2 q x h
    · exact C.ha q (Nat.le_trans h3.1 h)
  refine ⟨by rw [hU], by rw [hU]; exact h1, va_K.moved hW.alike C.hk, ?_⟩
  rw [hU]
  exact ((C.hx.kept h3.2.1).narrow hsub).warm hW
theorem h_after {H : Heap} {locs : List Loc} {ls : Array Slot} {stk : List Value} {a9 : Array Value} {mc9 ms9 : Nat} (C : hC Γ l k own nm cc nL ret rm A) (hr : va_Run (kP k) (kL k) (kE k) (kR k) (kS k) (kM k) (kA k) (kB k) (kT k) (kC k) H locs n z mc9 ms9 (F0 (kM k) pc ls stk) st (hQ Γ M H.size post a9) (hA M H.size)) (h2 : hWr A M) (h3 : va_S A (kS k).heap H locs) (h4 : hLoc ls L)
    (kk : ∀ (r : Option Value) (M1 : hM), post r M1 → hG Γ k A Q M1 (n + mc9) (z + ms9) (pc + 3) L (r.toList ++ st)) : W (kP k) (kL k) (kE k) (kR k) (kS k) (kM k) (kA k) (kB k) (kT k) (kC k) H locs n z Q (F0 (kM k) pc ls stk) := by
  intro T hT X
  obtain ⟨v, st₀, t, T', Lo, h0, X', hL, e1, e2, ⟨⟨r, M1, hv, hp, hP1, hW1⟩, hz, hkk⟩, step⟩ := hr T hT X
  cases hv
  rw [h0] at hz hkk
  have hsub : ∀ q, hA M H.size q → A q := fun q h => by
    rcases h with ⟨x, h⟩ | h
    · exact h2 q x h
    · exact C.ha q (Nat.le_trans h3.1 h)
  obtain ⟨t2, a1, b1⟩ := kk v M1 hp T'.heap (locs ++ Lo) ls (by rw [e1]; exact hP1) (fun a x h => hsub a (hW1 a x h))
    ⟨Nat.le_trans h3.1 (by rw [e1]; exact hz), fun q g1 g2 => by rw [e1, hkk q (Nat.lt_of_lt_of_le g1 h3.1) (fun zz => g2 (hsub q zz))]; exact h3.2.1 q g1 g2, fun q hq => by
      rcases List.mem_append.mp hq with h | h
      · exact h3.2.2 q h
      · exact hsub _ (hL q h)⟩ h4 T' rfl X'
  exact ⟨t2, step t2 a1, b1⟩
theorem h_sum {ls : Array Slot} {stk : List Value} (h : (st.map fun v => v.category).sum ≤ 8) : 2 * (F0 (kM k) pc ls stk).monitorRoom + (st.map fun v => v.category).sum ≤ 8 := by
  show 2 * 0 + _ ≤ 8
  omega
theorem gx_callV {q b ci N : Nat} {T : u_T} {w : Bool} {fs : List Value} {As stk : List Value} (C : hC Γ l k own nm cc nL ret rm A) (Y : hYV y bytes maxL rt As.length) (hm : hMet Γ l y bytes maxL rt rm' (.ref b :: As) M post) (hl : Cond.methodLink own index y ∈ hTbl) (hb : M b = some (w, .inr (ci, fs))) (hc : vwCl[ci]? = some (y.cls, T, N)) (hR : rm'.frames + 1 ≤ rm.frames ∧ 8 + (maxL + 11) + rm'.locals ≤ rm.locals) (hsum : (st.map fun v => v.category).sum ≤ 8) (hsz : L.length = nL) (hcs : n + rm'.cells ≤ rm.cells ∧ z + rm'.slots ≤ rm.slots) (d : decode cc pc = .ok (.invokevirtual index, 3)) (hstk : stk = As.reverse ++ .ref b :: st) (hq : pc + 3 = q)
    (kk : ∀ (r : Option Value) (M1 : hM), post r M1 → hG Γ k A Q M1 (n + rm'.cells) (z + rm'.slots) q L (r.toList ++ st)) : hG Γ k A Q M n z pc L stk := by
  subst hq
  intro H locs ls h1 h2 h3 h4
  rw [← C.la] at hm
  refine h_after C (va_runV (As := As) (rest := st) ⟨C.ex, C.cd, C.ml, C.ow, C.ts⟩ (hm H.size) ⟨hYF.cb C Y.1 hl hR, C.ts _ Y.2.1, C.ts _ Y.2.2⟩ ⟨hBx_blind, va_recv (D := Γ.1) (cl := vwCl) C.hk (h1.one hb) hc (q0 := 0) rfl, fun U hU hW => ⟨rfl, hBx_at C h1 h2 h3 U hU hW⟩⟩ rfl rfl (by rw [← hsz]; exact h4.1) hstk (h_sum hsum) d (by rw [C.ro]; exact hcs)) h2 h3 h4 kk
theorem gx_callS {q : Nat} {As stk : List Value} (C : hC Γ l k own nm cc nL ret rm A) (Y : hYS y bytes maxL rt As.length) (hm : hMet Γ l y bytes maxL rt rm' As M post) (hl : Cond.methodLink own index y ∈ hTbl) (hR : rm'.frames + 1 ≤ rm.frames ∧ 8 + (maxL + 11) + rm'.locals ≤ rm.locals) (hsum : (st.map fun v => v.category).sum ≤ 8) (hsz : L.length = nL) (hcs : n + rm'.cells ≤ rm.cells ∧ z + rm'.slots ≤ rm.slots) (d : decode cc pc = .ok (.invokestatic index, 3)) (hstk : stk = As.reverse ++ st) (hq : pc + 3 = q)
    (kk : ∀ (r : Option Value) (M1 : hM), post r M1 → hG Γ k A Q M1 (n + rm'.cells) (z + rm'.slots) q L (r.toList ++ st)) : hG Γ k A Q M n z pc L stk := by
  subst hq
  intro H locs ls h1 h2 h3 h4
  rw [← C.la] at hm
  refine h_after C (va_runS (As := As) (rest := st) ⟨C.ex, C.cd, C.ml, C.ow, C.ts⟩ (hm H.size) ⟨hYF.cb C Y.1 hl hR, C.ts _ Y.2⟩ ⟨hBx_blind, fun U hU hW => ⟨rfl, hBx_at C h1 h2 h3 U hU hW⟩⟩ rfl rfl (by rw [← hsz]; exact h4.1) hstk (h_sum hsum) d (by rw [C.ro]; exact hcs)) h2 h3 h4 kk
theorem gx_callSN {q : Nat} {host : String} {As stk : List Value} (C : hC Γ l k own nm cc nL ret rm A) (Y : hYS y bytes maxL rt As.length) (hm : hMet Γ l y bytes maxL rt rm' As M post) (hl : Cond.methodLinkNest own index y host ∈ hNest) (hR : rm'.frames + 1 ≤ rm.frames ∧ 8 + (maxL + 11) + rm'.locals ≤ rm.locals) (hsum : (st.map fun v => v.category).sum ≤ 8) (hsz : L.length = nL) (hcs : n + rm'.cells ≤ rm.cells ∧ z + rm'.slots ≤ rm.slots) (d : decode cc pc = .ok (.invokestatic index, 3)) (hstk : stk = As.reverse ++ st) (hq : pc + 3 = q)
    (kk : ∀ (r : Option Value) (M1 : hM), post r M1 → hG Γ k A Q M1 (n + rm'.cells) (z + rm'.slots) q L (r.toList ++ st)) : hG Γ k A Q M n z pc L stk := by
  subst hq
  intro H locs ls h1 h2 h3 h4
  rw [← C.la] at hm
  refine h_after C (va_runSN (As := As) (rest := st) ⟨C.ex, C.cd, C.ml, C.ow, C.ts⟩ (hm H.size) ⟨va_cnB As.length (hYF.ts C Y.1) Y.1.good rfl rfl rfl (C.hx.2.2.2.2.1 _ hl) (C.ts _ Y.1.2.1) ⟨Y.1.2.2.1.1, Y.1.2.2.1.2, Y.1.2.2.2⟩ (by rw [C.ro]; exact hR), C.ts _ Y.2, trivial⟩ ⟨hBx_blind, fun U hU hW => ⟨rfl, hBx_at C h1 h2 h3 U hU hW⟩⟩ rfl rfl (by rw [← hsz]; exact h4.1) hstk (h_sum hsum) d (by rw [C.ro]; exact hcs)) h2 h3 h4 kk
theorem gx_callI {q b : Nat} {As stk : List Value} (C : hC Γ l k own nm cc nL ret rm A) (Y : hYI y bytes maxL As.length) (hm : hMet Γ l y bytes maxL none rm' (.ref b :: As) M post) (hl : Cond.methodLink own index y ∈ hTbl) (hR : rm'.frames + 1 ≤ rm.frames ∧ 8 + (maxL + 11) + rm'.locals ≤ rm.locals) (hsum : (st.map fun v => v.category).sum ≤ 8) (hsz : L.length = nL) (hcs : n + rm'.cells ≤ rm.cells ∧ z + rm'.slots ≤ rm.slots) (d : decode cc pc = .ok (.invokespecial index, 3)) (hstk : stk = As.reverse ++ .ref b :: st) (hq : pc + 3 = q)
    (kk : ∀ (r : Option Value) (M1 : hM), post r M1 → hG Γ k A Q M1 (n + rm'.cells) (z + rm'.slots) q L (r.toList ++ st)) : hG Γ k A Q M n z pc L stk := by
  subst hq
  intro H locs ls h1 h2 h3 h4
  rw [← C.la] at hm
  refine h_after C (va_runI (As := As) (rest := st) ⟨C.ex, C.cd, C.ml, C.ow, C.ts⟩ (hm H.size) ⟨hYF.cb C Y.1 hl hR, Y.2.2, C.ts _ Y.2.1⟩ ⟨hBx_blind, fun U hU hW => ⟨rfl, hBx_at C h1 h2 h3 U hU hW⟩⟩ rfl rfl (by rw [← hsz]; exact h4.1) hstk (h_sum hsum) d (by rw [C.ro]; exact hcs)) h2 h3 h4 kk
theorem gx_callIN {q b : Nat} {host : String} {As stk : List Value} (C : hC Γ l k own nm cc nL ret rm A) (Y : hYI y bytes maxL As.length) (hm : hMet Γ l y bytes maxL none rm' (.ref b :: As) M post) (hl : Cond.methodLinkNest own index y host ∈ hNest) (hR : rm'.frames + 1 ≤ rm.frames ∧ 8 + (maxL + 11) + rm'.locals ≤ rm.locals) (hsum : (st.map fun v => v.category).sum ≤ 8) (hsz : L.length = nL) (hcs : n + rm'.cells ≤ rm.cells ∧ z + rm'.slots ≤ rm.slots) (d : decode cc pc = .ok (.invokespecial index, 3)) (hstk : stk = As.reverse ++ .ref b :: st) (hq : pc + 3 = q)
    (kk : ∀ (r : Option Value) (M1 : hM), post r M1 → hG Γ k A Q M1 (n + rm'.cells) (z + rm'.slots) q L (r.toList ++ st)) : hG Γ k A Q M n z pc L stk := by
  subst hq
  intro H locs ls h1 h2 h3 h4
  rw [← C.la] at hm
  refine h_after C (va_runIN (As := As) (rest := st) ⟨C.ex, C.cd, C.ml, C.ow, C.ts⟩ (hm H.size) ⟨va_cnB As.length (hYF.ts C Y.1) Y.1.good rfl rfl rfl (C.hx.2.2.2.2.1 _ hl) (C.ts _ Y.1.2.1) ⟨Y.1.2.2.1.1, Y.1.2.2.1.2, Y.1.2.2.2⟩ (by rw [C.ro]; exact hR), Y.2.2, C.ts _ Y.2.1⟩ ⟨hBx_blind, fun U hU hW => ⟨rfl, hBx_at C h1 h2 h3 U hU hW⟩⟩ rfl rfl (by rw [← hsz]; exact h4.1) hstk (h_sum hsum) d (by rw [C.ro]; exact hcs)) h2 h3 h4 kk
theorem g_callV0P {q : Nat} {e : Int32} {b ci N : Nat} {T : u_T} {w : Bool} {fs : List Value} (C : hC Γ l k own nm cc nL ret rm A) (Y : hYV y bytes maxL rt 0) (hm : hMet Γ l y bytes maxL rt rm' (.ref b :: []) M (hpP M e)) (hl : Cond.methodLink own index y ∈ hTbl) (hb : M b = some (w, .inr (ci, fs))) (hc : vwCl[ci]? = some (y.cls, T, N)) (hR : rm'.frames + 1 ≤ rm.frames ∧ 8 + (maxL + 11) + rm'.locals ≤ rm.locals) (hsum : (st.map fun v => v.category).sum ≤ 8) (hsz : L.length = nL) (d : decode cc pc = .ok (.invokevirtual index, 3)) (h0 : rm'.cells = 0 ∧ rm'.slots = 0) (hcs : n ≤ rm.cells ∧ z ≤ rm.slots) (hq : pc + 3 = q) (kk : hG Γ k A Q M n z q L (.int e :: st)) : hG Γ k A Q M n z pc L (.ref b :: st) := by
  refine gx_callV (As := []) C Y hm hl hb hc hR hsum hsz (by rw [h0.1, h0.2]; exact hcs) d rfl hq (fun r M1 hp => by
    obtain ⟨x, rfl, rfl, rfl⟩ := hp
    exact (by rw [h0.1, h0.2]; exact kk))
theorem g_callV0O {q : Nat} {e : Option Nat} {b ci N : Nat} {T : u_T} {w : Bool} {fs : List Value} (C : hC Γ l k own nm cc nL ret rm A) (Y : hYV y bytes maxL rt 0) (hm : hMet Γ l y bytes maxL rt rm' (.ref b :: []) M (hpO M e)) (hl : Cond.methodLink own index y ∈ hTbl) (hb : M b = some (w, .inr (ci, fs))) (hc : vwCl[ci]? = some (y.cls, T, N)) (hR : rm'.frames + 1 ≤ rm.frames ∧ 8 + (maxL + 11) + rm'.locals ≤ rm.locals) (hsum : (st.map fun v => v.category).sum ≤ 8) (hsz : L.length = nL) (d : decode cc pc = .ok (.invokevirtual index, 3)) (h0 : rm'.cells = 0 ∧ rm'.slots = 0) (hcs : n ≤ rm.cells ∧ z ≤ rm.slots) (hq : pc + 3 = q) (kk : hG Γ k A Q M n z q L (va_rf e :: st)) : hG Γ k A Q M n z pc L (.ref b :: st) := by
  refine gx_callV (As := []) C Y hm hl hb hc hR hsum hsz (by rw [h0.1, h0.2]; exact hcs) d rfl hq (fun r M1 hp => by
    obtain ⟨x, rfl, rfl, rfl⟩ := hp
    exact (by rw [h0.1, h0.2]; exact kk))
theorem g_callV0I {q : Nat} {pi : Int32 → hM → Prop} {b ci N : Nat} {T : u_T} {w : Bool} {fs : List Value} (C : hC Γ l k own nm cc nL ret rm A) (Y : hYV y bytes maxL rt 0) (hm : hMet Γ l y bytes maxL rt rm' (.ref b :: []) M (hpI pi)) (hl : Cond.methodLink own index y ∈ hTbl) (hb : M b = some (w, .inr (ci, fs))) (hc : vwCl[ci]? = some (y.cls, T, N)) (hR : rm'.frames + 1 ≤ rm.frames ∧ 8 + (maxL + 11) + rm'.locals ≤ rm.locals) (hsum : (st.map fun v => v.category).sum ≤ 8) (hsz : L.length = nL) (d : decode cc pc = .ok (.invokevirtual index, 3)) (h0 : rm'.cells = 0 ∧ rm'.slots = 0) (hcs : n ≤ rm.cells ∧ z ≤ rm.slots) (hq : pc + 3 = q) (kk : ∀ (x : Int32) (M1 : hM), pi x M1 → hG Γ k A Q M1 n z q L (.int x :: st)) : hG Γ k A Q M n z pc L (.ref b :: st) := by
  refine gx_callV (As := []) C Y hm hl hb hc hR hsum hsz (by rw [h0.1, h0.2]; exact hcs) d rfl hq (fun r M1 hp => by
    obtain ⟨x, rfl, hx⟩ := hp
    exact (by rw [h0.1, h0.2]; exact kk x M1 hx))
theorem g_callV0Im {q : Nat} {pi : Int32 → hM → Prop} {b ci N : Nat} {T : u_T} {w : Bool} {fs : List Value} (C : hC Γ l k own nm cc nL ret rm A) (Y : hYV y bytes maxL rt 0) (hm : hMet Γ l y bytes maxL rt rm' (.ref b :: []) M (hpI pi)) (hl : Cond.methodLink own index y ∈ hTbl) (hb : M b = some (w, .inr (ci, fs))) (hc : vwCl[ci]? = some (y.cls, T, N)) (hR : rm'.frames + 1 ≤ rm.frames ∧ 8 + (maxL + 11) + rm'.locals ≤ rm.locals) (hsum : (st.map fun v => v.category).sum ≤ 8) (hsz : L.length = nL) (d : decode cc pc = .ok (.invokevirtual index, 3)) (hcs : n + rm'.cells ≤ rm.cells ∧ z + rm'.slots ≤ rm.slots) (hq : pc + 3 = q) (kk : ∀ (x : Int32) (M1 : hM), pi x M1 → hG Γ k A Q M1 (n + rm'.cells) (z + rm'.slots) q L (.int x :: st)) : hG Γ k A Q M n z pc L (.ref b :: st) := by
  refine gx_callV (As := []) C Y hm hl hb hc hR hsum hsz hcs d rfl hq (fun r M1 hp => by
    obtain ⟨x, rfl, hx⟩ := hp
    exact kk x M1 hx)
theorem g_callV0L {q : Nat} {pi : Int64 → hM → Prop} {b ci N : Nat} {T : u_T} {w : Bool} {fs : List Value} (C : hC Γ l k own nm cc nL ret rm A) (Y : hYV y bytes maxL rt 0) (hm : hMet Γ l y bytes maxL rt rm' (.ref b :: []) M (hpL pi)) (hl : Cond.methodLink own index y ∈ hTbl) (hb : M b = some (w, .inr (ci, fs))) (hc : vwCl[ci]? = some (y.cls, T, N)) (hR : rm'.frames + 1 ≤ rm.frames ∧ 8 + (maxL + 11) + rm'.locals ≤ rm.locals) (hsum : (st.map fun v => v.category).sum ≤ 8) (hsz : L.length = nL) (d : decode cc pc = .ok (.invokevirtual index, 3)) (h0 : rm'.cells = 0 ∧ rm'.slots = 0) (hcs : n ≤ rm.cells ∧ z ≤ rm.slots) (hq : pc + 3 = q) (kk : ∀ (x : Int64) (M1 : hM), pi x M1 → hG Γ k A Q M1 n z q L (.long x :: st)) : hG Γ k A Q M n z pc L (.ref b :: st) := by
  refine gx_callV (As := []) C Y hm hl hb hc hR hsum hsz (by rw [h0.1, h0.2]; exact hcs) d rfl hq (fun r M1 hp => by
    obtain ⟨x, rfl, hx⟩ := hp
    exact (by rw [h0.1, h0.2]; exact kk x M1 hx))
theorem g_callV0Q {q : Nat} {pi : Option Nat → hM → Prop} {b ci N : Nat} {T : u_T} {w : Bool} {fs : List Value} (C : hC Γ l k own nm cc nL ret rm A) (Y : hYV y bytes maxL rt 0) (hm : hMet Γ l y bytes maxL rt rm' (.ref b :: []) M (hpQ pi)) (hl : Cond.methodLink own index y ∈ hTbl) (hb : M b = some (w, .inr (ci, fs))) (hc : vwCl[ci]? = some (y.cls, T, N)) (hR : rm'.frames + 1 ≤ rm.frames ∧ 8 + (maxL + 11) + rm'.locals ≤ rm.locals) (hsum : (st.map fun v => v.category).sum ≤ 8) (hsz : L.length = nL) (d : decode cc pc = .ok (.invokevirtual index, 3)) (h0 : rm'.cells = 0 ∧ rm'.slots = 0) (hcs : n ≤ rm.cells ∧ z ≤ rm.slots) (hq : pc + 3 = q) (kk : ∀ (x : Option Nat) (M1 : hM), pi x M1 → hG Γ k A Q M1 n z q L (va_rf x :: st)) : hG Γ k A Q M n z pc L (.ref b :: st) := by
  refine gx_callV (As := []) C Y hm hl hb hc hR hsum hsz (by rw [h0.1, h0.2]; exact hcs) d rfl hq (fun r M1 hp => by
    obtain ⟨x, rfl, hx⟩ := hp
    exact (by rw [h0.1, h0.2]; exact kk x M1 hx))
theorem g_callV0Qm {q : Nat} {pi : Option Nat → hM → Prop} {b ci N : Nat} {T : u_T} {w : Bool} {fs : List Value} (C : hC Γ l k own nm cc nL ret rm A) (Y : hYV y bytes maxL rt 0) (hm : hMet Γ l y bytes maxL rt rm' (.ref b :: []) M (hpQ pi)) (hl : Cond.methodLink own index y ∈ hTbl) (hb : M b = some (w, .inr (ci, fs))) (hc : vwCl[ci]? = some (y.cls, T, N)) (hR : rm'.frames + 1 ≤ rm.frames ∧ 8 + (maxL + 11) + rm'.locals ≤ rm.locals) (hsum : (st.map fun v => v.category).sum ≤ 8) (hsz : L.length = nL) (d : decode cc pc = .ok (.invokevirtual index, 3)) (hcs : n + rm'.cells ≤ rm.cells ∧ z + rm'.slots ≤ rm.slots) (hq : pc + 3 = q) (kk : ∀ (x : Option Nat) (M1 : hM), pi x M1 → hG Γ k A Q M1 (n + rm'.cells) (z + rm'.slots) q L (va_rf x :: st)) : hG Γ k A Q M n z pc L (.ref b :: st) := by
  refine gx_callV (As := []) C Y hm hl hb hc hR hsum hsz hcs d rfl hq (fun r M1 hp => by
    obtain ⟨x, rfl, hx⟩ := hp
    exact kk x M1 hx)
theorem g_callV0V {q : Nat} {pi : hM → Prop} {b ci N : Nat} {T : u_T} {w : Bool} {fs : List Value} (C : hC Γ l k own nm cc nL ret rm A) (Y : hYV y bytes maxL rt 0) (hm : hMet Γ l y bytes maxL rt rm' (.ref b :: []) M (hpV pi)) (hl : Cond.methodLink own index y ∈ hTbl) (hb : M b = some (w, .inr (ci, fs))) (hc : vwCl[ci]? = some (y.cls, T, N)) (hR : rm'.frames + 1 ≤ rm.frames ∧ 8 + (maxL + 11) + rm'.locals ≤ rm.locals) (hsum : (st.map fun v => v.category).sum ≤ 8) (hsz : L.length = nL) (d : decode cc pc = .ok (.invokevirtual index, 3)) (h0 : rm'.cells = 0 ∧ rm'.slots = 0) (hcs : n ≤ rm.cells ∧ z ≤ rm.slots) (hq : pc + 3 = q) (kk : ∀ M1 : hM, pi M1 → hG Γ k A Q M1 n z q L st) : hG Γ k A Q M n z pc L (.ref b :: st) := by
  refine gx_callV (As := []) C Y hm hl hb hc hR hsum hsz (by rw [h0.1, h0.2]; exact hcs) d rfl hq (fun r M1 hp => by
    obtain ⟨rfl, hx⟩ := hp
    exact (by rw [h0.1, h0.2]; exact kk M1 hx))
theorem g_callV0Vm {q : Nat} {pi : hM → Prop} {b ci N : Nat} {T : u_T} {w : Bool} {fs : List Value} (C : hC Γ l k own nm cc nL ret rm A) (Y : hYV y bytes maxL rt 0) (hm : hMet Γ l y bytes maxL rt rm' (.ref b :: []) M (hpV pi)) (hl : Cond.methodLink own index y ∈ hTbl) (hb : M b = some (w, .inr (ci, fs))) (hc : vwCl[ci]? = some (y.cls, T, N)) (hR : rm'.frames + 1 ≤ rm.frames ∧ 8 + (maxL + 11) + rm'.locals ≤ rm.locals) (hsum : (st.map fun v => v.category).sum ≤ 8) (hsz : L.length = nL) (d : decode cc pc = .ok (.invokevirtual index, 3)) (hcs : n + rm'.cells ≤ rm.cells ∧ z + rm'.slots ≤ rm.slots) (hq : pc + 3 = q) (kk : ∀ M1 : hM, pi M1 → hG Γ k A Q M1 (n + rm'.cells) (z + rm'.slots) q L st) : hG Γ k A Q M n z pc L (.ref b :: st) := by
  refine gx_callV (As := []) C Y hm hl hb hc hR hsum hsz hcs d rfl hq (fun r M1 hp => by
    obtain ⟨rfl, hx⟩ := hp
    exact kk M1 hx)
theorem g_callV1P {q : Nat} {e : Int32} {b ci N : Nat} {T : u_T} {w : Bool} {fs : List Value} {v1 : Value} (C : hC Γ l k own nm cc nL ret rm A) (Y : hYV y bytes maxL rt 1) (hm : hMet Γ l y bytes maxL rt rm' (.ref b :: [v1]) M (hpP M e)) (hl : Cond.methodLink own index y ∈ hTbl) (hb : M b = some (w, .inr (ci, fs))) (hc : vwCl[ci]? = some (y.cls, T, N)) (hR : rm'.frames + 1 ≤ rm.frames ∧ 8 + (maxL + 11) + rm'.locals ≤ rm.locals) (hsum : (st.map fun v => v.category).sum ≤ 8) (hsz : L.length = nL) (d : decode cc pc = .ok (.invokevirtual index, 3)) (h0 : rm'.cells = 0 ∧ rm'.slots = 0) (hcs : n ≤ rm.cells ∧ z ≤ rm.slots) (hq : pc + 3 = q) (kk : hG Γ k A Q M n z q L (.int e :: st)) : hG Γ k A Q M n z pc L (v1 :: .ref b :: st) := by
  refine gx_callV (As := [v1]) C Y hm hl hb hc hR hsum hsz (by rw [h0.1, h0.2]; exact hcs) d rfl hq (fun r M1 hp => by
    obtain ⟨x, rfl, rfl, rfl⟩ := hp
    exact (by rw [h0.1, h0.2]; exact kk))
theorem g_callV1O {q : Nat} {e : Option Nat} {b ci N : Nat} {T : u_T} {w : Bool} {fs : List Value} {v1 : Value} (C : hC Γ l k own nm cc nL ret rm A) (Y : hYV y bytes maxL rt 1) (hm : hMet Γ l y bytes maxL rt rm' (.ref b :: [v1]) M (hpO M e)) (hl : Cond.methodLink own index y ∈ hTbl) (hb : M b = some (w, .inr (ci, fs))) (hc : vwCl[ci]? = some (y.cls, T, N)) (hR : rm'.frames + 1 ≤ rm.frames ∧ 8 + (maxL + 11) + rm'.locals ≤ rm.locals) (hsum : (st.map fun v => v.category).sum ≤ 8) (hsz : L.length = nL) (d : decode cc pc = .ok (.invokevirtual index, 3)) (h0 : rm'.cells = 0 ∧ rm'.slots = 0) (hcs : n ≤ rm.cells ∧ z ≤ rm.slots) (hq : pc + 3 = q) (kk : hG Γ k A Q M n z q L (va_rf e :: st)) : hG Γ k A Q M n z pc L (v1 :: .ref b :: st) := by
  refine gx_callV (As := [v1]) C Y hm hl hb hc hR hsum hsz (by rw [h0.1, h0.2]; exact hcs) d rfl hq (fun r M1 hp => by
    obtain ⟨x, rfl, rfl, rfl⟩ := hp
    exact (by rw [h0.1, h0.2]; exact kk))
theorem g_callV1I {q : Nat} {pi : Int32 → hM → Prop} {b ci N : Nat} {T : u_T} {w : Bool} {fs : List Value} {v1 : Value} (C : hC Γ l k own nm cc nL ret rm A) (Y : hYV y bytes maxL rt 1) (hm : hMet Γ l y bytes maxL rt rm' (.ref b :: [v1]) M (hpI pi)) (hl : Cond.methodLink own index y ∈ hTbl) (hb : M b = some (w, .inr (ci, fs))) (hc : vwCl[ci]? = some (y.cls, T, N)) (hR : rm'.frames + 1 ≤ rm.frames ∧ 8 + (maxL + 11) + rm'.locals ≤ rm.locals) (hsum : (st.map fun v => v.category).sum ≤ 8) (hsz : L.length = nL) (d : decode cc pc = .ok (.invokevirtual index, 3)) (h0 : rm'.cells = 0 ∧ rm'.slots = 0) (hcs : n ≤ rm.cells ∧ z ≤ rm.slots) (hq : pc + 3 = q) (kk : ∀ (x : Int32) (M1 : hM), pi x M1 → hG Γ k A Q M1 n z q L (.int x :: st)) : hG Γ k A Q M n z pc L (v1 :: .ref b :: st) := by
  refine gx_callV (As := [v1]) C Y hm hl hb hc hR hsum hsz (by rw [h0.1, h0.2]; exact hcs) d rfl hq (fun r M1 hp => by
    obtain ⟨x, rfl, hx⟩ := hp
    exact (by rw [h0.1, h0.2]; exact kk x M1 hx))
theorem g_callV1Im {q : Nat} {pi : Int32 → hM → Prop} {b ci N : Nat} {T : u_T} {w : Bool} {fs : List Value} {v1 : Value} (C : hC Γ l k own nm cc nL ret rm A) (Y : hYV y bytes maxL rt 1) (hm : hMet Γ l y bytes maxL rt rm' (.ref b :: [v1]) M (hpI pi)) (hl : Cond.methodLink own index y ∈ hTbl) (hb : M b = some (w, .inr (ci, fs))) (hc : vwCl[ci]? = some (y.cls, T, N)) (hR : rm'.frames + 1 ≤ rm.frames ∧ 8 + (maxL + 11) + rm'.locals ≤ rm.locals) (hsum : (st.map fun v => v.category).sum ≤ 8) (hsz : L.length = nL) (d : decode cc pc = .ok (.invokevirtual index, 3)) (hcs : n + rm'.cells ≤ rm.cells ∧ z + rm'.slots ≤ rm.slots) (hq : pc + 3 = q) (kk : ∀ (x : Int32) (M1 : hM), pi x M1 → hG Γ k A Q M1 (n + rm'.cells) (z + rm'.slots) q L (.int x :: st)) : hG Γ k A Q M n z pc L (v1 :: .ref b :: st) := by
  refine gx_callV (As := [v1]) C Y hm hl hb hc hR hsum hsz hcs d rfl hq (fun r M1 hp => by
    obtain ⟨x, rfl, hx⟩ := hp
    exact kk x M1 hx)
theorem g_callV1L {q : Nat} {pi : Int64 → hM → Prop} {b ci N : Nat} {T : u_T} {w : Bool} {fs : List Value} {v1 : Value} (C : hC Γ l k own nm cc nL ret rm A) (Y : hYV y bytes maxL rt 1) (hm : hMet Γ l y bytes maxL rt rm' (.ref b :: [v1]) M (hpL pi)) (hl : Cond.methodLink own index y ∈ hTbl) (hb : M b = some (w, .inr (ci, fs))) (hc : vwCl[ci]? = some (y.cls, T, N)) (hR : rm'.frames + 1 ≤ rm.frames ∧ 8 + (maxL + 11) + rm'.locals ≤ rm.locals) (hsum : (st.map fun v => v.category).sum ≤ 8) (hsz : L.length = nL) (d : decode cc pc = .ok (.invokevirtual index, 3)) (h0 : rm'.cells = 0 ∧ rm'.slots = 0) (hcs : n ≤ rm.cells ∧ z ≤ rm.slots) (hq : pc + 3 = q) (kk : ∀ (x : Int64) (M1 : hM), pi x M1 → hG Γ k A Q M1 n z q L (.long x :: st)) : hG Γ k A Q M n z pc L (v1 :: .ref b :: st) := by
  refine gx_callV (As := [v1]) C Y hm hl hb hc hR hsum hsz (by rw [h0.1, h0.2]; exact hcs) d rfl hq (fun r M1 hp => by
    obtain ⟨x, rfl, hx⟩ := hp
    exact (by rw [h0.1, h0.2]; exact kk x M1 hx))
theorem g_callV1Q {q : Nat} {pi : Option Nat → hM → Prop} {b ci N : Nat} {T : u_T} {w : Bool} {fs : List Value} {v1 : Value} (C : hC Γ l k own nm cc nL ret rm A) (Y : hYV y bytes maxL rt 1) (hm : hMet Γ l y bytes maxL rt rm' (.ref b :: [v1]) M (hpQ pi)) (hl : Cond.methodLink own index y ∈ hTbl) (hb : M b = some (w, .inr (ci, fs))) (hc : vwCl[ci]? = some (y.cls, T, N)) (hR : rm'.frames + 1 ≤ rm.frames ∧ 8 + (maxL + 11) + rm'.locals ≤ rm.locals) (hsum : (st.map fun v => v.category).sum ≤ 8) (hsz : L.length = nL) (d : decode cc pc = .ok (.invokevirtual index, 3)) (h0 : rm'.cells = 0 ∧ rm'.slots = 0) (hcs : n ≤ rm.cells ∧ z ≤ rm.slots) (hq : pc + 3 = q) (kk : ∀ (x : Option Nat) (M1 : hM), pi x M1 → hG Γ k A Q M1 n z q L (va_rf x :: st)) : hG Γ k A Q M n z pc L (v1 :: .ref b :: st) := by
  refine gx_callV (As := [v1]) C Y hm hl hb hc hR hsum hsz (by rw [h0.1, h0.2]; exact hcs) d rfl hq (fun r M1 hp => by
    obtain ⟨x, rfl, hx⟩ := hp
    exact (by rw [h0.1, h0.2]; exact kk x M1 hx))
theorem g_callV1Qm {q : Nat} {pi : Option Nat → hM → Prop} {b ci N : Nat} {T : u_T} {w : Bool} {fs : List Value} {v1 : Value} (C : hC Γ l k own nm cc nL ret rm A) (Y : hYV y bytes maxL rt 1) (hm : hMet Γ l y bytes maxL rt rm' (.ref b :: [v1]) M (hpQ pi)) (hl : Cond.methodLink own index y ∈ hTbl) (hb : M b = some (w, .inr (ci, fs))) (hc : vwCl[ci]? = some (y.cls, T, N)) (hR : rm'.frames + 1 ≤ rm.frames ∧ 8 + (maxL + 11) + rm'.locals ≤ rm.locals) (hsum : (st.map fun v => v.category).sum ≤ 8) (hsz : L.length = nL) (d : decode cc pc = .ok (.invokevirtual index, 3)) (hcs : n + rm'.cells ≤ rm.cells ∧ z + rm'.slots ≤ rm.slots) (hq : pc + 3 = q) (kk : ∀ (x : Option Nat) (M1 : hM), pi x M1 → hG Γ k A Q M1 (n + rm'.cells) (z + rm'.slots) q L (va_rf x :: st)) : hG Γ k A Q M n z pc L (v1 :: .ref b :: st) := by
  refine gx_callV (As := [v1]) C Y hm hl hb hc hR hsum hsz hcs d rfl hq (fun r M1 hp => by
    obtain ⟨x, rfl, hx⟩ := hp
    exact kk x M1 hx)
theorem g_callV1V {q : Nat} {pi : hM → Prop} {b ci N : Nat} {T : u_T} {w : Bool} {fs : List Value} {v1 : Value} (C : hC Γ l k own nm cc nL ret rm A) (Y : hYV y bytes maxL rt 1) (hm : hMet Γ l y bytes maxL rt rm' (.ref b :: [v1]) M (hpV pi)) (hl : Cond.methodLink own index y ∈ hTbl) (hb : M b = some (w, .inr (ci, fs))) (hc : vwCl[ci]? = some (y.cls, T, N)) (hR : rm'.frames + 1 ≤ rm.frames ∧ 8 + (maxL + 11) + rm'.locals ≤ rm.locals) (hsum : (st.map fun v => v.category).sum ≤ 8) (hsz : L.length = nL) (d : decode cc pc = .ok (.invokevirtual index, 3)) (h0 : rm'.cells = 0 ∧ rm'.slots = 0) (hcs : n ≤ rm.cells ∧ z ≤ rm.slots) (hq : pc + 3 = q) (kk : ∀ M1 : hM, pi M1 → hG Γ k A Q M1 n z q L st) : hG Γ k A Q M n z pc L (v1 :: .ref b :: st) := by
  refine gx_callV (As := [v1]) C Y hm hl hb hc hR hsum hsz (by rw [h0.1, h0.2]; exact hcs) d rfl hq (fun r M1 hp => by
    obtain ⟨rfl, hx⟩ := hp
    exact (by rw [h0.1, h0.2]; exact kk M1 hx))
theorem g_callV1Vm {q : Nat} {pi : hM → Prop} {b ci N : Nat} {T : u_T} {w : Bool} {fs : List Value} {v1 : Value} (C : hC Γ l k own nm cc nL ret rm A) (Y : hYV y bytes maxL rt 1) (hm : hMet Γ l y bytes maxL rt rm' (.ref b :: [v1]) M (hpV pi)) (hl : Cond.methodLink own index y ∈ hTbl) (hb : M b = some (w, .inr (ci, fs))) (hc : vwCl[ci]? = some (y.cls, T, N)) (hR : rm'.frames + 1 ≤ rm.frames ∧ 8 + (maxL + 11) + rm'.locals ≤ rm.locals) (hsum : (st.map fun v => v.category).sum ≤ 8) (hsz : L.length = nL) (d : decode cc pc = .ok (.invokevirtual index, 3)) (hcs : n + rm'.cells ≤ rm.cells ∧ z + rm'.slots ≤ rm.slots) (hq : pc + 3 = q) (kk : ∀ M1 : hM, pi M1 → hG Γ k A Q M1 (n + rm'.cells) (z + rm'.slots) q L st) : hG Γ k A Q M n z pc L (v1 :: .ref b :: st) := by
  refine gx_callV (As := [v1]) C Y hm hl hb hc hR hsum hsz hcs d rfl hq (fun r M1 hp => by
    obtain ⟨rfl, hx⟩ := hp
    exact kk M1 hx)
theorem g_callV2P {q : Nat} {e : Int32} {b ci N : Nat} {T : u_T} {w : Bool} {fs : List Value} {v1 v2 : Value} (C : hC Γ l k own nm cc nL ret rm A) (Y : hYV y bytes maxL rt 2) (hm : hMet Γ l y bytes maxL rt rm' (.ref b :: [v1, v2]) M (hpP M e)) (hl : Cond.methodLink own index y ∈ hTbl) (hb : M b = some (w, .inr (ci, fs))) (hc : vwCl[ci]? = some (y.cls, T, N)) (hR : rm'.frames + 1 ≤ rm.frames ∧ 8 + (maxL + 11) + rm'.locals ≤ rm.locals) (hsum : (st.map fun v => v.category).sum ≤ 8) (hsz : L.length = nL) (d : decode cc pc = .ok (.invokevirtual index, 3)) (h0 : rm'.cells = 0 ∧ rm'.slots = 0) (hcs : n ≤ rm.cells ∧ z ≤ rm.slots) (hq : pc + 3 = q) (kk : hG Γ k A Q M n z q L (.int e :: st)) : hG Γ k A Q M n z pc L (v2 :: v1 :: .ref b :: st) := by
  refine gx_callV (As := [v1, v2]) C Y hm hl hb hc hR hsum hsz (by rw [h0.1, h0.2]; exact hcs) d rfl hq (fun r M1 hp => by
    obtain ⟨x, rfl, rfl, rfl⟩ := hp
    exact (by rw [h0.1, h0.2]; exact kk))
theorem g_callV2O {q : Nat} {e : Option Nat} {b ci N : Nat} {T : u_T} {w : Bool} {fs : List Value} {v1 v2 : Value} (C : hC Γ l k own nm cc nL ret rm A) (Y : hYV y bytes maxL rt 2) (hm : hMet Γ l y bytes maxL rt rm' (.ref b :: [v1, v2]) M (hpO M e)) (hl : Cond.methodLink own index y ∈ hTbl) (hb : M b = some (w, .inr (ci, fs))) (hc : vwCl[ci]? = some (y.cls, T, N)) (hR : rm'.frames + 1 ≤ rm.frames ∧ 8 + (maxL + 11) + rm'.locals ≤ rm.locals) (hsum : (st.map fun v => v.category).sum ≤ 8) (hsz : L.length = nL) (d : decode cc pc = .ok (.invokevirtual index, 3)) (h0 : rm'.cells = 0 ∧ rm'.slots = 0) (hcs : n ≤ rm.cells ∧ z ≤ rm.slots) (hq : pc + 3 = q) (kk : hG Γ k A Q M n z q L (va_rf e :: st)) : hG Γ k A Q M n z pc L (v2 :: v1 :: .ref b :: st) := by
  refine gx_callV (As := [v1, v2]) C Y hm hl hb hc hR hsum hsz (by rw [h0.1, h0.2]; exact hcs) d rfl hq (fun r M1 hp => by
    obtain ⟨x, rfl, rfl, rfl⟩ := hp
    exact (by rw [h0.1, h0.2]; exact kk))
theorem g_callV2I {q : Nat} {pi : Int32 → hM → Prop} {b ci N : Nat} {T : u_T} {w : Bool} {fs : List Value} {v1 v2 : Value} (C : hC Γ l k own nm cc nL ret rm A) (Y : hYV y bytes maxL rt 2) (hm : hMet Γ l y bytes maxL rt rm' (.ref b :: [v1, v2]) M (hpI pi)) (hl : Cond.methodLink own index y ∈ hTbl) (hb : M b = some (w, .inr (ci, fs))) (hc : vwCl[ci]? = some (y.cls, T, N)) (hR : rm'.frames + 1 ≤ rm.frames ∧ 8 + (maxL + 11) + rm'.locals ≤ rm.locals) (hsum : (st.map fun v => v.category).sum ≤ 8) (hsz : L.length = nL) (d : decode cc pc = .ok (.invokevirtual index, 3)) (h0 : rm'.cells = 0 ∧ rm'.slots = 0) (hcs : n ≤ rm.cells ∧ z ≤ rm.slots) (hq : pc + 3 = q) (kk : ∀ (x : Int32) (M1 : hM), pi x M1 → hG Γ k A Q M1 n z q L (.int x :: st)) : hG Γ k A Q M n z pc L (v2 :: v1 :: .ref b :: st) := by
  refine gx_callV (As := [v1, v2]) C Y hm hl hb hc hR hsum hsz (by rw [h0.1, h0.2]; exact hcs) d rfl hq (fun r M1 hp => by
    obtain ⟨x, rfl, hx⟩ := hp
    exact (by rw [h0.1, h0.2]; exact kk x M1 hx))
theorem g_callV2Im {q : Nat} {pi : Int32 → hM → Prop} {b ci N : Nat} {T : u_T} {w : Bool} {fs : List Value} {v1 v2 : Value} (C : hC Γ l k own nm cc nL ret rm A) (Y : hYV y bytes maxL rt 2) (hm : hMet Γ l y bytes maxL rt rm' (.ref b :: [v1, v2]) M (hpI pi)) (hl : Cond.methodLink own index y ∈ hTbl) (hb : M b = some (w, .inr (ci, fs))) (hc : vwCl[ci]? = some (y.cls, T, N)) (hR : rm'.frames + 1 ≤ rm.frames ∧ 8 + (maxL + 11) + rm'.locals ≤ rm.locals) (hsum : (st.map fun v => v.category).sum ≤ 8) (hsz : L.length = nL) (d : decode cc pc = .ok (.invokevirtual index, 3)) (hcs : n + rm'.cells ≤ rm.cells ∧ z + rm'.slots ≤ rm.slots) (hq : pc + 3 = q) (kk : ∀ (x : Int32) (M1 : hM), pi x M1 → hG Γ k A Q M1 (n + rm'.cells) (z + rm'.slots) q L (.int x :: st)) : hG Γ k A Q M n z pc L (v2 :: v1 :: .ref b :: st) := by
  refine gx_callV (As := [v1, v2]) C Y hm hl hb hc hR hsum hsz hcs d rfl hq (fun r M1 hp => by
    obtain ⟨x, rfl, hx⟩ := hp
    exact kk x M1 hx)
theorem g_callV2L {q : Nat} {pi : Int64 → hM → Prop} {b ci N : Nat} {T : u_T} {w : Bool} {fs : List Value} {v1 v2 : Value} (C : hC Γ l k own nm cc nL ret rm A) (Y : hYV y bytes maxL rt 2) (hm : hMet Γ l y bytes maxL rt rm' (.ref b :: [v1, v2]) M (hpL pi)) (hl : Cond.methodLink own index y ∈ hTbl) (hb : M b = some (w, .inr (ci, fs))) (hc : vwCl[ci]? = some (y.cls, T, N)) (hR : rm'.frames + 1 ≤ rm.frames ∧ 8 + (maxL + 11) + rm'.locals ≤ rm.locals) (hsum : (st.map fun v => v.category).sum ≤ 8) (hsz : L.length = nL) (d : decode cc pc = .ok (.invokevirtual index, 3)) (h0 : rm'.cells = 0 ∧ rm'.slots = 0) (hcs : n ≤ rm.cells ∧ z ≤ rm.slots) (hq : pc + 3 = q) (kk : ∀ (x : Int64) (M1 : hM), pi x M1 → hG Γ k A Q M1 n z q L (.long x :: st)) : hG Γ k A Q M n z pc L (v2 :: v1 :: .ref b :: st) := by
  refine gx_callV (As := [v1, v2]) C Y hm hl hb hc hR hsum hsz (by rw [h0.1, h0.2]; exact hcs) d rfl hq (fun r M1 hp => by
    obtain ⟨x, rfl, hx⟩ := hp
    exact (by rw [h0.1, h0.2]; exact kk x M1 hx))
theorem g_callV2Q {q : Nat} {pi : Option Nat → hM → Prop} {b ci N : Nat} {T : u_T} {w : Bool} {fs : List Value} {v1 v2 : Value} (C : hC Γ l k own nm cc nL ret rm A) (Y : hYV y bytes maxL rt 2) (hm : hMet Γ l y bytes maxL rt rm' (.ref b :: [v1, v2]) M (hpQ pi)) (hl : Cond.methodLink own index y ∈ hTbl) (hb : M b = some (w, .inr (ci, fs))) (hc : vwCl[ci]? = some (y.cls, T, N)) (hR : rm'.frames + 1 ≤ rm.frames ∧ 8 + (maxL + 11) + rm'.locals ≤ rm.locals) (hsum : (st.map fun v => v.category).sum ≤ 8) (hsz : L.length = nL) (d : decode cc pc = .ok (.invokevirtual index, 3)) (h0 : rm'.cells = 0 ∧ rm'.slots = 0) (hcs : n ≤ rm.cells ∧ z ≤ rm.slots) (hq : pc + 3 = q) (kk : ∀ (x : Option Nat) (M1 : hM), pi x M1 → hG Γ k A Q M1 n z q L (va_rf x :: st)) : hG Γ k A Q M n z pc L (v2 :: v1 :: .ref b :: st) := by
  refine gx_callV (As := [v1, v2]) C Y hm hl hb hc hR hsum hsz (by rw [h0.1, h0.2]; exact hcs) d rfl hq (fun r M1 hp => by
    obtain ⟨x, rfl, hx⟩ := hp
    exact (by rw [h0.1, h0.2]; exact kk x M1 hx))
theorem g_callV2Qm {q : Nat} {pi : Option Nat → hM → Prop} {b ci N : Nat} {T : u_T} {w : Bool} {fs : List Value} {v1 v2 : Value} (C : hC Γ l k own nm cc nL ret rm A) (Y : hYV y bytes maxL rt 2) (hm : hMet Γ l y bytes maxL rt rm' (.ref b :: [v1, v2]) M (hpQ pi)) (hl : Cond.methodLink own index y ∈ hTbl) (hb : M b = some (w, .inr (ci, fs))) (hc : vwCl[ci]? = some (y.cls, T, N)) (hR : rm'.frames + 1 ≤ rm.frames ∧ 8 + (maxL + 11) + rm'.locals ≤ rm.locals) (hsum : (st.map fun v => v.category).sum ≤ 8) (hsz : L.length = nL) (d : decode cc pc = .ok (.invokevirtual index, 3)) (hcs : n + rm'.cells ≤ rm.cells ∧ z + rm'.slots ≤ rm.slots) (hq : pc + 3 = q) (kk : ∀ (x : Option Nat) (M1 : hM), pi x M1 → hG Γ k A Q M1 (n + rm'.cells) (z + rm'.slots) q L (va_rf x :: st)) : hG Γ k A Q M n z pc L (v2 :: v1 :: .ref b :: st) := by
  refine gx_callV (As := [v1, v2]) C Y hm hl hb hc hR hsum hsz hcs d rfl hq (fun r M1 hp => by
    obtain ⟨x, rfl, hx⟩ := hp
    exact kk x M1 hx)
theorem g_callV2V {q : Nat} {pi : hM → Prop} {b ci N : Nat} {T : u_T} {w : Bool} {fs : List Value} {v1 v2 : Value} (C : hC Γ l k own nm cc nL ret rm A) (Y : hYV y bytes maxL rt 2) (hm : hMet Γ l y bytes maxL rt rm' (.ref b :: [v1, v2]) M (hpV pi)) (hl : Cond.methodLink own index y ∈ hTbl) (hb : M b = some (w, .inr (ci, fs))) (hc : vwCl[ci]? = some (y.cls, T, N)) (hR : rm'.frames + 1 ≤ rm.frames ∧ 8 + (maxL + 11) + rm'.locals ≤ rm.locals) (hsum : (st.map fun v => v.category).sum ≤ 8) (hsz : L.length = nL) (d : decode cc pc = .ok (.invokevirtual index, 3)) (h0 : rm'.cells = 0 ∧ rm'.slots = 0) (hcs : n ≤ rm.cells ∧ z ≤ rm.slots) (hq : pc + 3 = q) (kk : ∀ M1 : hM, pi M1 → hG Γ k A Q M1 n z q L st) : hG Γ k A Q M n z pc L (v2 :: v1 :: .ref b :: st) := by
  refine gx_callV (As := [v1, v2]) C Y hm hl hb hc hR hsum hsz (by rw [h0.1, h0.2]; exact hcs) d rfl hq (fun r M1 hp => by
    obtain ⟨rfl, hx⟩ := hp
    exact (by rw [h0.1, h0.2]; exact kk M1 hx))
theorem g_callV2Vm {q : Nat} {pi : hM → Prop} {b ci N : Nat} {T : u_T} {w : Bool} {fs : List Value} {v1 v2 : Value} (C : hC Γ l k own nm cc nL ret rm A) (Y : hYV y bytes maxL rt 2) (hm : hMet Γ l y bytes maxL rt rm' (.ref b :: [v1, v2]) M (hpV pi)) (hl : Cond.methodLink own index y ∈ hTbl) (hb : M b = some (w, .inr (ci, fs))) (hc : vwCl[ci]? = some (y.cls, T, N)) (hR : rm'.frames + 1 ≤ rm.frames ∧ 8 + (maxL + 11) + rm'.locals ≤ rm.locals) (hsum : (st.map fun v => v.category).sum ≤ 8) (hsz : L.length = nL) (d : decode cc pc = .ok (.invokevirtual index, 3)) (hcs : n + rm'.cells ≤ rm.cells ∧ z + rm'.slots ≤ rm.slots) (hq : pc + 3 = q) (kk : ∀ M1 : hM, pi M1 → hG Γ k A Q M1 (n + rm'.cells) (z + rm'.slots) q L st) : hG Γ k A Q M n z pc L (v2 :: v1 :: .ref b :: st) := by
  refine gx_callV (As := [v1, v2]) C Y hm hl hb hc hR hsum hsz hcs d rfl hq (fun r M1 hp => by
    obtain ⟨rfl, hx⟩ := hp
    exact kk M1 hx)
theorem g_callV3P {q : Nat} {e : Int32} {b ci N : Nat} {T : u_T} {w : Bool} {fs : List Value} {v1 v2 v3 : Value} (C : hC Γ l k own nm cc nL ret rm A) (Y : hYV y bytes maxL rt 3) (hm : hMet Γ l y bytes maxL rt rm' (.ref b :: [v1, v2, v3]) M (hpP M e)) (hl : Cond.methodLink own index y ∈ hTbl) (hb : M b = some (w, .inr (ci, fs))) (hc : vwCl[ci]? = some (y.cls, T, N)) (hR : rm'.frames + 1 ≤ rm.frames ∧ 8 + (maxL + 11) + rm'.locals ≤ rm.locals) (hsum : (st.map fun v => v.category).sum ≤ 8) (hsz : L.length = nL) (d : decode cc pc = .ok (.invokevirtual index, 3)) (h0 : rm'.cells = 0 ∧ rm'.slots = 0) (hcs : n ≤ rm.cells ∧ z ≤ rm.slots) (hq : pc + 3 = q) (kk : hG Γ k A Q M n z q L (.int e :: st)) : hG Γ k A Q M n z pc L (v3 :: v2 :: v1 :: .ref b :: st) := by
  refine gx_callV (As := [v1, v2, v3]) C Y hm hl hb hc hR hsum hsz (by rw [h0.1, h0.2]; exact hcs) d rfl hq (fun r M1 hp => by
    obtain ⟨x, rfl, rfl, rfl⟩ := hp
    exact (by rw [h0.1, h0.2]; exact kk))
theorem g_callV3O {q : Nat} {e : Option Nat} {b ci N : Nat} {T : u_T} {w : Bool} {fs : List Value} {v1 v2 v3 : Value} (C : hC Γ l k own nm cc nL ret rm A) (Y : hYV y bytes maxL rt 3) (hm : hMet Γ l y bytes maxL rt rm' (.ref b :: [v1, v2, v3]) M (hpO M e)) (hl : Cond.methodLink own index y ∈ hTbl) (hb : M b = some (w, .inr (ci, fs))) (hc : vwCl[ci]? = some (y.cls, T, N)) (hR : rm'.frames + 1 ≤ rm.frames ∧ 8 + (maxL + 11) + rm'.locals ≤ rm.locals) (hsum : (st.map fun v => v.category).sum ≤ 8) (hsz : L.length = nL) (d : decode cc pc = .ok (.invokevirtual index, 3)) (h0 : rm'.cells = 0 ∧ rm'.slots = 0) (hcs : n ≤ rm.cells ∧ z ≤ rm.slots) (hq : pc + 3 = q) (kk : hG Γ k A Q M n z q L (va_rf e :: st)) : hG Γ k A Q M n z pc L (v3 :: v2 :: v1 :: .ref b :: st) := by
  refine gx_callV (As := [v1, v2, v3]) C Y hm hl hb hc hR hsum hsz (by rw [h0.1, h0.2]; exact hcs) d rfl hq (fun r M1 hp => by
    obtain ⟨x, rfl, rfl, rfl⟩ := hp
    exact (by rw [h0.1, h0.2]; exact kk))
theorem g_callV3I {q : Nat} {pi : Int32 → hM → Prop} {b ci N : Nat} {T : u_T} {w : Bool} {fs : List Value} {v1 v2 v3 : Value} (C : hC Γ l k own nm cc nL ret rm A) (Y : hYV y bytes maxL rt 3) (hm : hMet Γ l y bytes maxL rt rm' (.ref b :: [v1, v2, v3]) M (hpI pi)) (hl : Cond.methodLink own index y ∈ hTbl) (hb : M b = some (w, .inr (ci, fs))) (hc : vwCl[ci]? = some (y.cls, T, N)) (hR : rm'.frames + 1 ≤ rm.frames ∧ 8 + (maxL + 11) + rm'.locals ≤ rm.locals) (hsum : (st.map fun v => v.category).sum ≤ 8) (hsz : L.length = nL) (d : decode cc pc = .ok (.invokevirtual index, 3)) (h0 : rm'.cells = 0 ∧ rm'.slots = 0) (hcs : n ≤ rm.cells ∧ z ≤ rm.slots) (hq : pc + 3 = q) (kk : ∀ (x : Int32) (M1 : hM), pi x M1 → hG Γ k A Q M1 n z q L (.int x :: st)) : hG Γ k A Q M n z pc L (v3 :: v2 :: v1 :: .ref b :: st) := by
  refine gx_callV (As := [v1, v2, v3]) C Y hm hl hb hc hR hsum hsz (by rw [h0.1, h0.2]; exact hcs) d rfl hq (fun r M1 hp => by
    obtain ⟨x, rfl, hx⟩ := hp
    exact (by rw [h0.1, h0.2]; exact kk x M1 hx))
theorem g_callV3Im {q : Nat} {pi : Int32 → hM → Prop} {b ci N : Nat} {T : u_T} {w : Bool} {fs : List Value} {v1 v2 v3 : Value} (C : hC Γ l k own nm cc nL ret rm A) (Y : hYV y bytes maxL rt 3) (hm : hMet Γ l y bytes maxL rt rm' (.ref b :: [v1, v2, v3]) M (hpI pi)) (hl : Cond.methodLink own index y ∈ hTbl) (hb : M b = some (w, .inr (ci, fs))) (hc : vwCl[ci]? = some (y.cls, T, N)) (hR : rm'.frames + 1 ≤ rm.frames ∧ 8 + (maxL + 11) + rm'.locals ≤ rm.locals) (hsum : (st.map fun v => v.category).sum ≤ 8) (hsz : L.length = nL) (d : decode cc pc = .ok (.invokevirtual index, 3)) (hcs : n + rm'.cells ≤ rm.cells ∧ z + rm'.slots ≤ rm.slots) (hq : pc + 3 = q) (kk : ∀ (x : Int32) (M1 : hM), pi x M1 → hG Γ k A Q M1 (n + rm'.cells) (z + rm'.slots) q L (.int x :: st)) : hG Γ k A Q M n z pc L (v3 :: v2 :: v1 :: .ref b :: st) := by
  refine gx_callV (As := [v1, v2, v3]) C Y hm hl hb hc hR hsum hsz hcs d rfl hq (fun r M1 hp => by
    obtain ⟨x, rfl, hx⟩ := hp
    exact kk x M1 hx)
theorem g_callV3L {q : Nat} {pi : Int64 → hM → Prop} {b ci N : Nat} {T : u_T} {w : Bool} {fs : List Value} {v1 v2 v3 : Value} (C : hC Γ l k own nm cc nL ret rm A) (Y : hYV y bytes maxL rt 3) (hm : hMet Γ l y bytes maxL rt rm' (.ref b :: [v1, v2, v3]) M (hpL pi)) (hl : Cond.methodLink own index y ∈ hTbl) (hb : M b = some (w, .inr (ci, fs))) (hc : vwCl[ci]? = some (y.cls, T, N)) (hR : rm'.frames + 1 ≤ rm.frames ∧ 8 + (maxL + 11) + rm'.locals ≤ rm.locals) (hsum : (st.map fun v => v.category).sum ≤ 8) (hsz : L.length = nL) (d : decode cc pc = .ok (.invokevirtual index, 3)) (h0 : rm'.cells = 0 ∧ rm'.slots = 0) (hcs : n ≤ rm.cells ∧ z ≤ rm.slots) (hq : pc + 3 = q) (kk : ∀ (x : Int64) (M1 : hM), pi x M1 → hG Γ k A Q M1 n z q L (.long x :: st)) : hG Γ k A Q M n z pc L (v3 :: v2 :: v1 :: .ref b :: st) := by
  refine gx_callV (As := [v1, v2, v3]) C Y hm hl hb hc hR hsum hsz (by rw [h0.1, h0.2]; exact hcs) d rfl hq (fun r M1 hp => by
    obtain ⟨x, rfl, hx⟩ := hp
    exact (by rw [h0.1, h0.2]; exact kk x M1 hx))
theorem g_callV3Q {q : Nat} {pi : Option Nat → hM → Prop} {b ci N : Nat} {T : u_T} {w : Bool} {fs : List Value} {v1 v2 v3 : Value} (C : hC Γ l k own nm cc nL ret rm A) (Y : hYV y bytes maxL rt 3) (hm : hMet Γ l y bytes maxL rt rm' (.ref b :: [v1, v2, v3]) M (hpQ pi)) (hl : Cond.methodLink own index y ∈ hTbl) (hb : M b = some (w, .inr (ci, fs))) (hc : vwCl[ci]? = some (y.cls, T, N)) (hR : rm'.frames + 1 ≤ rm.frames ∧ 8 + (maxL + 11) + rm'.locals ≤ rm.locals) (hsum : (st.map fun v => v.category).sum ≤ 8) (hsz : L.length = nL) (d : decode cc pc = .ok (.invokevirtual index, 3)) (h0 : rm'.cells = 0 ∧ rm'.slots = 0) (hcs : n ≤ rm.cells ∧ z ≤ rm.slots) (hq : pc + 3 = q) (kk : ∀ (x : Option Nat) (M1 : hM), pi x M1 → hG Γ k A Q M1 n z q L (va_rf x :: st)) : hG Γ k A Q M n z pc L (v3 :: v2 :: v1 :: .ref b :: st) := by
  refine gx_callV (As := [v1, v2, v3]) C Y hm hl hb hc hR hsum hsz (by rw [h0.1, h0.2]; exact hcs) d rfl hq (fun r M1 hp => by
    obtain ⟨x, rfl, hx⟩ := hp
    exact (by rw [h0.1, h0.2]; exact kk x M1 hx))
theorem g_callV3Qm {q : Nat} {pi : Option Nat → hM → Prop} {b ci N : Nat} {T : u_T} {w : Bool} {fs : List Value} {v1 v2 v3 : Value} (C : hC Γ l k own nm cc nL ret rm A) (Y : hYV y bytes maxL rt 3) (hm : hMet Γ l y bytes maxL rt rm' (.ref b :: [v1, v2, v3]) M (hpQ pi)) (hl : Cond.methodLink own index y ∈ hTbl) (hb : M b = some (w, .inr (ci, fs))) (hc : vwCl[ci]? = some (y.cls, T, N)) (hR : rm'.frames + 1 ≤ rm.frames ∧ 8 + (maxL + 11) + rm'.locals ≤ rm.locals) (hsum : (st.map fun v => v.category).sum ≤ 8) (hsz : L.length = nL) (d : decode cc pc = .ok (.invokevirtual index, 3)) (hcs : n + rm'.cells ≤ rm.cells ∧ z + rm'.slots ≤ rm.slots) (hq : pc + 3 = q) (kk : ∀ (x : Option Nat) (M1 : hM), pi x M1 → hG Γ k A Q M1 (n + rm'.cells) (z + rm'.slots) q L (va_rf x :: st)) : hG Γ k A Q M n z pc L (v3 :: v2 :: v1 :: .ref b :: st) := by
  refine gx_callV (As := [v1, v2, v3]) C Y hm hl hb hc hR hsum hsz hcs d rfl hq (fun r M1 hp => by
    obtain ⟨x, rfl, hx⟩ := hp
    exact kk x M1 hx)
theorem g_callV3V {q : Nat} {pi : hM → Prop} {b ci N : Nat} {T : u_T} {w : Bool} {fs : List Value} {v1 v2 v3 : Value} (C : hC Γ l k own nm cc nL ret rm A) (Y : hYV y bytes maxL rt 3) (hm : hMet Γ l y bytes maxL rt rm' (.ref b :: [v1, v2, v3]) M (hpV pi)) (hl : Cond.methodLink own index y ∈ hTbl) (hb : M b = some (w, .inr (ci, fs))) (hc : vwCl[ci]? = some (y.cls, T, N)) (hR : rm'.frames + 1 ≤ rm.frames ∧ 8 + (maxL + 11) + rm'.locals ≤ rm.locals) (hsum : (st.map fun v => v.category).sum ≤ 8) (hsz : L.length = nL) (d : decode cc pc = .ok (.invokevirtual index, 3)) (h0 : rm'.cells = 0 ∧ rm'.slots = 0) (hcs : n ≤ rm.cells ∧ z ≤ rm.slots) (hq : pc + 3 = q) (kk : ∀ M1 : hM, pi M1 → hG Γ k A Q M1 n z q L st) : hG Γ k A Q M n z pc L (v3 :: v2 :: v1 :: .ref b :: st) := by
  refine gx_callV (As := [v1, v2, v3]) C Y hm hl hb hc hR hsum hsz (by rw [h0.1, h0.2]; exact hcs) d rfl hq (fun r M1 hp => by
    obtain ⟨rfl, hx⟩ := hp
    exact (by rw [h0.1, h0.2]; exact kk M1 hx))
theorem g_callV3Vm {q : Nat} {pi : hM → Prop} {b ci N : Nat} {T : u_T} {w : Bool} {fs : List Value} {v1 v2 v3 : Value} (C : hC Γ l k own nm cc nL ret rm A) (Y : hYV y bytes maxL rt 3) (hm : hMet Γ l y bytes maxL rt rm' (.ref b :: [v1, v2, v3]) M (hpV pi)) (hl : Cond.methodLink own index y ∈ hTbl) (hb : M b = some (w, .inr (ci, fs))) (hc : vwCl[ci]? = some (y.cls, T, N)) (hR : rm'.frames + 1 ≤ rm.frames ∧ 8 + (maxL + 11) + rm'.locals ≤ rm.locals) (hsum : (st.map fun v => v.category).sum ≤ 8) (hsz : L.length = nL) (d : decode cc pc = .ok (.invokevirtual index, 3)) (hcs : n + rm'.cells ≤ rm.cells ∧ z + rm'.slots ≤ rm.slots) (hq : pc + 3 = q) (kk : ∀ M1 : hM, pi M1 → hG Γ k A Q M1 (n + rm'.cells) (z + rm'.slots) q L st) : hG Γ k A Q M n z pc L (v3 :: v2 :: v1 :: .ref b :: st) := by
  refine gx_callV (As := [v1, v2, v3]) C Y hm hl hb hc hR hsum hsz hcs d rfl hq (fun r M1 hp => by
    obtain ⟨rfl, hx⟩ := hp
    exact kk M1 hx)
theorem g_callV4P {q : Nat} {e : Int32} {b ci N : Nat} {T : u_T} {w : Bool} {fs : List Value} {v1 v2 v3 v4 : Value} (C : hC Γ l k own nm cc nL ret rm A) (Y : hYV y bytes maxL rt 4) (hm : hMet Γ l y bytes maxL rt rm' (.ref b :: [v1, v2, v3, v4]) M (hpP M e)) (hl : Cond.methodLink own index y ∈ hTbl) (hb : M b = some (w, .inr (ci, fs))) (hc : vwCl[ci]? = some (y.cls, T, N)) (hR : rm'.frames + 1 ≤ rm.frames ∧ 8 + (maxL + 11) + rm'.locals ≤ rm.locals) (hsum : (st.map fun v => v.category).sum ≤ 8) (hsz : L.length = nL) (d : decode cc pc = .ok (.invokevirtual index, 3)) (h0 : rm'.cells = 0 ∧ rm'.slots = 0) (hcs : n ≤ rm.cells ∧ z ≤ rm.slots) (hq : pc + 3 = q) (kk : hG Γ k A Q M n z q L (.int e :: st)) : hG Γ k A Q M n z pc L (v4 :: v3 :: v2 :: v1 :: .ref b :: st) := by
  refine gx_callV (As := [v1, v2, v3, v4]) C Y hm hl hb hc hR hsum hsz (by rw [h0.1, h0.2]; exact hcs) d rfl hq (fun r M1 hp => by
    obtain ⟨x, rfl, rfl, rfl⟩ := hp
    exact (by rw [h0.1, h0.2]; exact kk))
theorem g_callV4O {q : Nat} {e : Option Nat} {b ci N : Nat} {T : u_T} {w : Bool} {fs : List Value} {v1 v2 v3 v4 : Value} (C : hC Γ l k own nm cc nL ret rm A) (Y : hYV y bytes maxL rt 4) (hm : hMet Γ l y bytes maxL rt rm' (.ref b :: [v1, v2, v3, v4]) M (hpO M e)) (hl : Cond.methodLink own index y ∈ hTbl) (hb : M b = some (w, .inr (ci, fs))) (hc : vwCl[ci]? = some (y.cls, T, N)) (hR : rm'.frames + 1 ≤ rm.frames ∧ 8 + (maxL + 11) + rm'.locals ≤ rm.locals) (hsum : (st.map fun v => v.category).sum ≤ 8) (hsz : L.length = nL) (d : decode cc pc = .ok (.invokevirtual index, 3)) (h0 : rm'.cells = 0 ∧ rm'.slots = 0) (hcs : n ≤ rm.cells ∧ z ≤ rm.slots) (hq : pc + 3 = q) (kk : hG Γ k A Q M n z q L (va_rf e :: st)) : hG Γ k A Q M n z pc L (v4 :: v3 :: v2 :: v1 :: .ref b :: st) := by
  refine gx_callV (As := [v1, v2, v3, v4]) C Y hm hl hb hc hR hsum hsz (by rw [h0.1, h0.2]; exact hcs) d rfl hq (fun r M1 hp => by
    obtain ⟨x, rfl, rfl, rfl⟩ := hp
    exact (by rw [h0.1, h0.2]; exact kk))
theorem g_callV4I {q : Nat} {pi : Int32 → hM → Prop} {b ci N : Nat} {T : u_T} {w : Bool} {fs : List Value} {v1 v2 v3 v4 : Value} (C : hC Γ l k own nm cc nL ret rm A) (Y : hYV y bytes maxL rt 4) (hm : hMet Γ l y bytes maxL rt rm' (.ref b :: [v1, v2, v3, v4]) M (hpI pi)) (hl : Cond.methodLink own index y ∈ hTbl) (hb : M b = some (w, .inr (ci, fs))) (hc : vwCl[ci]? = some (y.cls, T, N)) (hR : rm'.frames + 1 ≤ rm.frames ∧ 8 + (maxL + 11) + rm'.locals ≤ rm.locals) (hsum : (st.map fun v => v.category).sum ≤ 8) (hsz : L.length = nL) (d : decode cc pc = .ok (.invokevirtual index, 3)) (h0 : rm'.cells = 0 ∧ rm'.slots = 0) (hcs : n ≤ rm.cells ∧ z ≤ rm.slots) (hq : pc + 3 = q) (kk : ∀ (x : Int32) (M1 : hM), pi x M1 → hG Γ k A Q M1 n z q L (.int x :: st)) : hG Γ k A Q M n z pc L (v4 :: v3 :: v2 :: v1 :: .ref b :: st) := by
  refine gx_callV (As := [v1, v2, v3, v4]) C Y hm hl hb hc hR hsum hsz (by rw [h0.1, h0.2]; exact hcs) d rfl hq (fun r M1 hp => by
    obtain ⟨x, rfl, hx⟩ := hp
    exact (by rw [h0.1, h0.2]; exact kk x M1 hx))
theorem g_callV4Im {q : Nat} {pi : Int32 → hM → Prop} {b ci N : Nat} {T : u_T} {w : Bool} {fs : List Value} {v1 v2 v3 v4 : Value} (C : hC Γ l k own nm cc nL ret rm A) (Y : hYV y bytes maxL rt 4) (hm : hMet Γ l y bytes maxL rt rm' (.ref b :: [v1, v2, v3, v4]) M (hpI pi)) (hl : Cond.methodLink own index y ∈ hTbl) (hb : M b = some (w, .inr (ci, fs))) (hc : vwCl[ci]? = some (y.cls, T, N)) (hR : rm'.frames + 1 ≤ rm.frames ∧ 8 + (maxL + 11) + rm'.locals ≤ rm.locals) (hsum : (st.map fun v => v.category).sum ≤ 8) (hsz : L.length = nL) (d : decode cc pc = .ok (.invokevirtual index, 3)) (hcs : n + rm'.cells ≤ rm.cells ∧ z + rm'.slots ≤ rm.slots) (hq : pc + 3 = q) (kk : ∀ (x : Int32) (M1 : hM), pi x M1 → hG Γ k A Q M1 (n + rm'.cells) (z + rm'.slots) q L (.int x :: st)) : hG Γ k A Q M n z pc L (v4 :: v3 :: v2 :: v1 :: .ref b :: st) := by
  refine gx_callV (As := [v1, v2, v3, v4]) C Y hm hl hb hc hR hsum hsz hcs d rfl hq (fun r M1 hp => by
    obtain ⟨x, rfl, hx⟩ := hp
    exact kk x M1 hx)
theorem g_callV4L {q : Nat} {pi : Int64 → hM → Prop} {b ci N : Nat} {T : u_T} {w : Bool} {fs : List Value} {v1 v2 v3 v4 : Value} (C : hC Γ l k own nm cc nL ret rm A) (Y : hYV y bytes maxL rt 4) (hm : hMet Γ l y bytes maxL rt rm' (.ref b :: [v1, v2, v3, v4]) M (hpL pi)) (hl : Cond.methodLink own index y ∈ hTbl) (hb : M b = some (w, .inr (ci, fs))) (hc : vwCl[ci]? = some (y.cls, T, N)) (hR : rm'.frames + 1 ≤ rm.frames ∧ 8 + (maxL + 11) + rm'.locals ≤ rm.locals) (hsum : (st.map fun v => v.category).sum ≤ 8) (hsz : L.length = nL) (d : decode cc pc = .ok (.invokevirtual index, 3)) (h0 : rm'.cells = 0 ∧ rm'.slots = 0) (hcs : n ≤ rm.cells ∧ z ≤ rm.slots) (hq : pc + 3 = q) (kk : ∀ (x : Int64) (M1 : hM), pi x M1 → hG Γ k A Q M1 n z q L (.long x :: st)) : hG Γ k A Q M n z pc L (v4 :: v3 :: v2 :: v1 :: .ref b :: st) := by
  refine gx_callV (As := [v1, v2, v3, v4]) C Y hm hl hb hc hR hsum hsz (by rw [h0.1, h0.2]; exact hcs) d rfl hq (fun r M1 hp => by
    obtain ⟨x, rfl, hx⟩ := hp
    exact (by rw [h0.1, h0.2]; exact kk x M1 hx))
theorem g_callV4Q {q : Nat} {pi : Option Nat → hM → Prop} {b ci N : Nat} {T : u_T} {w : Bool} {fs : List Value} {v1 v2 v3 v4 : Value} (C : hC Γ l k own nm cc nL ret rm A) (Y : hYV y bytes maxL rt 4) (hm : hMet Γ l y bytes maxL rt rm' (.ref b :: [v1, v2, v3, v4]) M (hpQ pi)) (hl : Cond.methodLink own index y ∈ hTbl) (hb : M b = some (w, .inr (ci, fs))) (hc : vwCl[ci]? = some (y.cls, T, N)) (hR : rm'.frames + 1 ≤ rm.frames ∧ 8 + (maxL + 11) + rm'.locals ≤ rm.locals) (hsum : (st.map fun v => v.category).sum ≤ 8) (hsz : L.length = nL) (d : decode cc pc = .ok (.invokevirtual index, 3)) (h0 : rm'.cells = 0 ∧ rm'.slots = 0) (hcs : n ≤ rm.cells ∧ z ≤ rm.slots) (hq : pc + 3 = q) (kk : ∀ (x : Option Nat) (M1 : hM), pi x M1 → hG Γ k A Q M1 n z q L (va_rf x :: st)) : hG Γ k A Q M n z pc L (v4 :: v3 :: v2 :: v1 :: .ref b :: st) := by
  refine gx_callV (As := [v1, v2, v3, v4]) C Y hm hl hb hc hR hsum hsz (by rw [h0.1, h0.2]; exact hcs) d rfl hq (fun r M1 hp => by
    obtain ⟨x, rfl, hx⟩ := hp
    exact (by rw [h0.1, h0.2]; exact kk x M1 hx))
theorem g_callV4Qm {q : Nat} {pi : Option Nat → hM → Prop} {b ci N : Nat} {T : u_T} {w : Bool} {fs : List Value} {v1 v2 v3 v4 : Value} (C : hC Γ l k own nm cc nL ret rm A) (Y : hYV y bytes maxL rt 4) (hm : hMet Γ l y bytes maxL rt rm' (.ref b :: [v1, v2, v3, v4]) M (hpQ pi)) (hl : Cond.methodLink own index y ∈ hTbl) (hb : M b = some (w, .inr (ci, fs))) (hc : vwCl[ci]? = some (y.cls, T, N)) (hR : rm'.frames + 1 ≤ rm.frames ∧ 8 + (maxL + 11) + rm'.locals ≤ rm.locals) (hsum : (st.map fun v => v.category).sum ≤ 8) (hsz : L.length = nL) (d : decode cc pc = .ok (.invokevirtual index, 3)) (hcs : n + rm'.cells ≤ rm.cells ∧ z + rm'.slots ≤ rm.slots) (hq : pc + 3 = q) (kk : ∀ (x : Option Nat) (M1 : hM), pi x M1 → hG Γ k A Q M1 (n + rm'.cells) (z + rm'.slots) q L (va_rf x :: st)) : hG Γ k A Q M n z pc L (v4 :: v3 :: v2 :: v1 :: .ref b :: st) := by
  refine gx_callV (As := [v1, v2, v3, v4]) C Y hm hl hb hc hR hsum hsz hcs d rfl hq (fun r M1 hp => by
    obtain ⟨x, rfl, hx⟩ := hp
    exact kk x M1 hx)
theorem g_callV4V {q : Nat} {pi : hM → Prop} {b ci N : Nat} {T : u_T} {w : Bool} {fs : List Value} {v1 v2 v3 v4 : Value} (C : hC Γ l k own nm cc nL ret rm A) (Y : hYV y bytes maxL rt 4) (hm : hMet Γ l y bytes maxL rt rm' (.ref b :: [v1, v2, v3, v4]) M (hpV pi)) (hl : Cond.methodLink own index y ∈ hTbl) (hb : M b = some (w, .inr (ci, fs))) (hc : vwCl[ci]? = some (y.cls, T, N)) (hR : rm'.frames + 1 ≤ rm.frames ∧ 8 + (maxL + 11) + rm'.locals ≤ rm.locals) (hsum : (st.map fun v => v.category).sum ≤ 8) (hsz : L.length = nL) (d : decode cc pc = .ok (.invokevirtual index, 3)) (h0 : rm'.cells = 0 ∧ rm'.slots = 0) (hcs : n ≤ rm.cells ∧ z ≤ rm.slots) (hq : pc + 3 = q) (kk : ∀ M1 : hM, pi M1 → hG Γ k A Q M1 n z q L st) : hG Γ k A Q M n z pc L (v4 :: v3 :: v2 :: v1 :: .ref b :: st) := by
  refine gx_callV (As := [v1, v2, v3, v4]) C Y hm hl hb hc hR hsum hsz (by rw [h0.1, h0.2]; exact hcs) d rfl hq (fun r M1 hp => by
    obtain ⟨rfl, hx⟩ := hp
    exact (by rw [h0.1, h0.2]; exact kk M1 hx))
theorem g_callV4Vm {q : Nat} {pi : hM → Prop} {b ci N : Nat} {T : u_T} {w : Bool} {fs : List Value} {v1 v2 v3 v4 : Value} (C : hC Γ l k own nm cc nL ret rm A) (Y : hYV y bytes maxL rt 4) (hm : hMet Γ l y bytes maxL rt rm' (.ref b :: [v1, v2, v3, v4]) M (hpV pi)) (hl : Cond.methodLink own index y ∈ hTbl) (hb : M b = some (w, .inr (ci, fs))) (hc : vwCl[ci]? = some (y.cls, T, N)) (hR : rm'.frames + 1 ≤ rm.frames ∧ 8 + (maxL + 11) + rm'.locals ≤ rm.locals) (hsum : (st.map fun v => v.category).sum ≤ 8) (hsz : L.length = nL) (d : decode cc pc = .ok (.invokevirtual index, 3)) (hcs : n + rm'.cells ≤ rm.cells ∧ z + rm'.slots ≤ rm.slots) (hq : pc + 3 = q) (kk : ∀ M1 : hM, pi M1 → hG Γ k A Q M1 (n + rm'.cells) (z + rm'.slots) q L st) : hG Γ k A Q M n z pc L (v4 :: v3 :: v2 :: v1 :: .ref b :: st) := by
  refine gx_callV (As := [v1, v2, v3, v4]) C Y hm hl hb hc hR hsum hsz hcs d rfl hq (fun r M1 hp => by
    obtain ⟨rfl, hx⟩ := hp
    exact kk M1 hx)
theorem g_callS0P {q : Nat} {e : Int32} (C : hC Γ l k own nm cc nL ret rm A) (Y : hYS y bytes maxL rt 0) (hm : hMet Γ l y bytes maxL rt rm' ([]) M (hpP M e)) (hl : Cond.methodLink own index y ∈ hTbl) (hR : rm'.frames + 1 ≤ rm.frames ∧ 8 + (maxL + 11) + rm'.locals ≤ rm.locals) (hsum : (st.map fun v => v.category).sum ≤ 8) (hsz : L.length = nL) (d : decode cc pc = .ok (.invokestatic index, 3)) (h0 : rm'.cells = 0 ∧ rm'.slots = 0) (hcs : n ≤ rm.cells ∧ z ≤ rm.slots) (hq : pc + 3 = q) (kk : hG Γ k A Q M n z q L (.int e :: st)) : hG Γ k A Q M n z pc L (st) := by
  refine gx_callS (As := []) C Y hm hl hR hsum hsz (by rw [h0.1, h0.2]; exact hcs) d rfl hq (fun r M1 hp => by
    obtain ⟨x, rfl, rfl, rfl⟩ := hp
    exact (by rw [h0.1, h0.2]; exact kk))
theorem g_callS0O {q : Nat} {e : Option Nat} (C : hC Γ l k own nm cc nL ret rm A) (Y : hYS y bytes maxL rt 0) (hm : hMet Γ l y bytes maxL rt rm' ([]) M (hpO M e)) (hl : Cond.methodLink own index y ∈ hTbl) (hR : rm'.frames + 1 ≤ rm.frames ∧ 8 + (maxL + 11) + rm'.locals ≤ rm.locals) (hsum : (st.map fun v => v.category).sum ≤ 8) (hsz : L.length = nL) (d : decode cc pc = .ok (.invokestatic index, 3)) (h0 : rm'.cells = 0 ∧ rm'.slots = 0) (hcs : n ≤ rm.cells ∧ z ≤ rm.slots) (hq : pc + 3 = q) (kk : hG Γ k A Q M n z q L (va_rf e :: st)) : hG Γ k A Q M n z pc L (st) := by
  refine gx_callS (As := []) C Y hm hl hR hsum hsz (by rw [h0.1, h0.2]; exact hcs) d rfl hq (fun r M1 hp => by
    obtain ⟨x, rfl, rfl, rfl⟩ := hp
    exact (by rw [h0.1, h0.2]; exact kk))
theorem g_callS0I {q : Nat} {pi : Int32 → hM → Prop} (C : hC Γ l k own nm cc nL ret rm A) (Y : hYS y bytes maxL rt 0) (hm : hMet Γ l y bytes maxL rt rm' ([]) M (hpI pi)) (hl : Cond.methodLink own index y ∈ hTbl) (hR : rm'.frames + 1 ≤ rm.frames ∧ 8 + (maxL + 11) + rm'.locals ≤ rm.locals) (hsum : (st.map fun v => v.category).sum ≤ 8) (hsz : L.length = nL) (d : decode cc pc = .ok (.invokestatic index, 3)) (h0 : rm'.cells = 0 ∧ rm'.slots = 0) (hcs : n ≤ rm.cells ∧ z ≤ rm.slots) (hq : pc + 3 = q) (kk : ∀ (x : Int32) (M1 : hM), pi x M1 → hG Γ k A Q M1 n z q L (.int x :: st)) : hG Γ k A Q M n z pc L (st) := by
  refine gx_callS (As := []) C Y hm hl hR hsum hsz (by rw [h0.1, h0.2]; exact hcs) d rfl hq (fun r M1 hp => by
    obtain ⟨x, rfl, hx⟩ := hp
    exact (by rw [h0.1, h0.2]; exact kk x M1 hx))
theorem g_callS0Im {q : Nat} {pi : Int32 → hM → Prop} (C : hC Γ l k own nm cc nL ret rm A) (Y : hYS y bytes maxL rt 0) (hm : hMet Γ l y bytes maxL rt rm' ([]) M (hpI pi)) (hl : Cond.methodLink own index y ∈ hTbl) (hR : rm'.frames + 1 ≤ rm.frames ∧ 8 + (maxL + 11) + rm'.locals ≤ rm.locals) (hsum : (st.map fun v => v.category).sum ≤ 8) (hsz : L.length = nL) (d : decode cc pc = .ok (.invokestatic index, 3)) (hcs : n + rm'.cells ≤ rm.cells ∧ z + rm'.slots ≤ rm.slots) (hq : pc + 3 = q) (kk : ∀ (x : Int32) (M1 : hM), pi x M1 → hG Γ k A Q M1 (n + rm'.cells) (z + rm'.slots) q L (.int x :: st)) : hG Γ k A Q M n z pc L (st) := by
  refine gx_callS (As := []) C Y hm hl hR hsum hsz hcs d rfl hq (fun r M1 hp => by
    obtain ⟨x, rfl, hx⟩ := hp
    exact kk x M1 hx)
theorem g_callS0L {q : Nat} {pi : Int64 → hM → Prop} (C : hC Γ l k own nm cc nL ret rm A) (Y : hYS y bytes maxL rt 0) (hm : hMet Γ l y bytes maxL rt rm' ([]) M (hpL pi)) (hl : Cond.methodLink own index y ∈ hTbl) (hR : rm'.frames + 1 ≤ rm.frames ∧ 8 + (maxL + 11) + rm'.locals ≤ rm.locals) (hsum : (st.map fun v => v.category).sum ≤ 8) (hsz : L.length = nL) (d : decode cc pc = .ok (.invokestatic index, 3)) (h0 : rm'.cells = 0 ∧ rm'.slots = 0) (hcs : n ≤ rm.cells ∧ z ≤ rm.slots) (hq : pc + 3 = q) (kk : ∀ (x : Int64) (M1 : hM), pi x M1 → hG Γ k A Q M1 n z q L (.long x :: st)) : hG Γ k A Q M n z pc L (st) := by
  refine gx_callS (As := []) C Y hm hl hR hsum hsz (by rw [h0.1, h0.2]; exact hcs) d rfl hq (fun r M1 hp => by
    obtain ⟨x, rfl, hx⟩ := hp
    exact (by rw [h0.1, h0.2]; exact kk x M1 hx))
theorem g_callS0Q {q : Nat} {pi : Option Nat → hM → Prop} (C : hC Γ l k own nm cc nL ret rm A) (Y : hYS y bytes maxL rt 0) (hm : hMet Γ l y bytes maxL rt rm' ([]) M (hpQ pi)) (hl : Cond.methodLink own index y ∈ hTbl) (hR : rm'.frames + 1 ≤ rm.frames ∧ 8 + (maxL + 11) + rm'.locals ≤ rm.locals) (hsum : (st.map fun v => v.category).sum ≤ 8) (hsz : L.length = nL) (d : decode cc pc = .ok (.invokestatic index, 3)) (h0 : rm'.cells = 0 ∧ rm'.slots = 0) (hcs : n ≤ rm.cells ∧ z ≤ rm.slots) (hq : pc + 3 = q) (kk : ∀ (x : Option Nat) (M1 : hM), pi x M1 → hG Γ k A Q M1 n z q L (va_rf x :: st)) : hG Γ k A Q M n z pc L (st) := by
  refine gx_callS (As := []) C Y hm hl hR hsum hsz (by rw [h0.1, h0.2]; exact hcs) d rfl hq (fun r M1 hp => by
    obtain ⟨x, rfl, hx⟩ := hp
    exact (by rw [h0.1, h0.2]; exact kk x M1 hx))
theorem g_callS0Qm {q : Nat} {pi : Option Nat → hM → Prop} (C : hC Γ l k own nm cc nL ret rm A) (Y : hYS y bytes maxL rt 0) (hm : hMet Γ l y bytes maxL rt rm' ([]) M (hpQ pi)) (hl : Cond.methodLink own index y ∈ hTbl) (hR : rm'.frames + 1 ≤ rm.frames ∧ 8 + (maxL + 11) + rm'.locals ≤ rm.locals) (hsum : (st.map fun v => v.category).sum ≤ 8) (hsz : L.length = nL) (d : decode cc pc = .ok (.invokestatic index, 3)) (hcs : n + rm'.cells ≤ rm.cells ∧ z + rm'.slots ≤ rm.slots) (hq : pc + 3 = q) (kk : ∀ (x : Option Nat) (M1 : hM), pi x M1 → hG Γ k A Q M1 (n + rm'.cells) (z + rm'.slots) q L (va_rf x :: st)) : hG Γ k A Q M n z pc L (st) := by
  refine gx_callS (As := []) C Y hm hl hR hsum hsz hcs d rfl hq (fun r M1 hp => by
    obtain ⟨x, rfl, hx⟩ := hp
    exact kk x M1 hx)
theorem g_callS0V {q : Nat} {pi : hM → Prop} (C : hC Γ l k own nm cc nL ret rm A) (Y : hYS y bytes maxL rt 0) (hm : hMet Γ l y bytes maxL rt rm' ([]) M (hpV pi)) (hl : Cond.methodLink own index y ∈ hTbl) (hR : rm'.frames + 1 ≤ rm.frames ∧ 8 + (maxL + 11) + rm'.locals ≤ rm.locals) (hsum : (st.map fun v => v.category).sum ≤ 8) (hsz : L.length = nL) (d : decode cc pc = .ok (.invokestatic index, 3)) (h0 : rm'.cells = 0 ∧ rm'.slots = 0) (hcs : n ≤ rm.cells ∧ z ≤ rm.slots) (hq : pc + 3 = q) (kk : ∀ M1 : hM, pi M1 → hG Γ k A Q M1 n z q L st) : hG Γ k A Q M n z pc L (st) := by
  refine gx_callS (As := []) C Y hm hl hR hsum hsz (by rw [h0.1, h0.2]; exact hcs) d rfl hq (fun r M1 hp => by
    obtain ⟨rfl, hx⟩ := hp
    exact (by rw [h0.1, h0.2]; exact kk M1 hx))
theorem g_callS0Vm {q : Nat} {pi : hM → Prop} (C : hC Γ l k own nm cc nL ret rm A) (Y : hYS y bytes maxL rt 0) (hm : hMet Γ l y bytes maxL rt rm' ([]) M (hpV pi)) (hl : Cond.methodLink own index y ∈ hTbl) (hR : rm'.frames + 1 ≤ rm.frames ∧ 8 + (maxL + 11) + rm'.locals ≤ rm.locals) (hsum : (st.map fun v => v.category).sum ≤ 8) (hsz : L.length = nL) (d : decode cc pc = .ok (.invokestatic index, 3)) (hcs : n + rm'.cells ≤ rm.cells ∧ z + rm'.slots ≤ rm.slots) (hq : pc + 3 = q) (kk : ∀ M1 : hM, pi M1 → hG Γ k A Q M1 (n + rm'.cells) (z + rm'.slots) q L st) : hG Γ k A Q M n z pc L (st) := by
  refine gx_callS (As := []) C Y hm hl hR hsum hsz hcs d rfl hq (fun r M1 hp => by
    obtain ⟨rfl, hx⟩ := hp
    exact kk M1 hx)
theorem g_callS1P {q : Nat} {e : Int32} {v1 : Value} (C : hC Γ l k own nm cc nL ret rm A) (Y : hYS y bytes maxL rt 1) (hm : hMet Γ l y bytes maxL rt rm' ([v1]) M (hpP M e)) (hl : Cond.methodLink own index y ∈ hTbl) (hR : rm'.frames + 1 ≤ rm.frames ∧ 8 + (maxL + 11) + rm'.locals ≤ rm.locals) (hsum : (st.map fun v => v.category).sum ≤ 8) (hsz : L.length = nL) (d : decode cc pc = .ok (.invokestatic index, 3)) (h0 : rm'.cells = 0 ∧ rm'.slots = 0) (hcs : n ≤ rm.cells ∧ z ≤ rm.slots) (hq : pc + 3 = q) (kk : hG Γ k A Q M n z q L (.int e :: st)) : hG Γ k A Q M n z pc L (v1 :: st) := by
  refine gx_callS (As := [v1]) C Y hm hl hR hsum hsz (by rw [h0.1, h0.2]; exact hcs) d rfl hq (fun r M1 hp => by
    obtain ⟨x, rfl, rfl, rfl⟩ := hp
    exact (by rw [h0.1, h0.2]; exact kk))
theorem g_callS1O {q : Nat} {e : Option Nat} {v1 : Value} (C : hC Γ l k own nm cc nL ret rm A) (Y : hYS y bytes maxL rt 1) (hm : hMet Γ l y bytes maxL rt rm' ([v1]) M (hpO M e)) (hl : Cond.methodLink own index y ∈ hTbl) (hR : rm'.frames + 1 ≤ rm.frames ∧ 8 + (maxL + 11) + rm'.locals ≤ rm.locals) (hsum : (st.map fun v => v.category).sum ≤ 8) (hsz : L.length = nL) (d : decode cc pc = .ok (.invokestatic index, 3)) (h0 : rm'.cells = 0 ∧ rm'.slots = 0) (hcs : n ≤ rm.cells ∧ z ≤ rm.slots) (hq : pc + 3 = q) (kk : hG Γ k A Q M n z q L (va_rf e :: st)) : hG Γ k A Q M n z pc L (v1 :: st) := by
  refine gx_callS (As := [v1]) C Y hm hl hR hsum hsz (by rw [h0.1, h0.2]; exact hcs) d rfl hq (fun r M1 hp => by
    obtain ⟨x, rfl, rfl, rfl⟩ := hp
    exact (by rw [h0.1, h0.2]; exact kk))
theorem g_callS1I {q : Nat} {pi : Int32 → hM → Prop} {v1 : Value} (C : hC Γ l k own nm cc nL ret rm A) (Y : hYS y bytes maxL rt 1) (hm : hMet Γ l y bytes maxL rt rm' ([v1]) M (hpI pi)) (hl : Cond.methodLink own index y ∈ hTbl) (hR : rm'.frames + 1 ≤ rm.frames ∧ 8 + (maxL + 11) + rm'.locals ≤ rm.locals) (hsum : (st.map fun v => v.category).sum ≤ 8) (hsz : L.length = nL) (d : decode cc pc = .ok (.invokestatic index, 3)) (h0 : rm'.cells = 0 ∧ rm'.slots = 0) (hcs : n ≤ rm.cells ∧ z ≤ rm.slots) (hq : pc + 3 = q) (kk : ∀ (x : Int32) (M1 : hM), pi x M1 → hG Γ k A Q M1 n z q L (.int x :: st)) : hG Γ k A Q M n z pc L (v1 :: st) := by
  refine gx_callS (As := [v1]) C Y hm hl hR hsum hsz (by rw [h0.1, h0.2]; exact hcs) d rfl hq (fun r M1 hp => by
    obtain ⟨x, rfl, hx⟩ := hp
    exact (by rw [h0.1, h0.2]; exact kk x M1 hx))
theorem g_callS1Im {q : Nat} {pi : Int32 → hM → Prop} {v1 : Value} (C : hC Γ l k own nm cc nL ret rm A) (Y : hYS y bytes maxL rt 1) (hm : hMet Γ l y bytes maxL rt rm' ([v1]) M (hpI pi)) (hl : Cond.methodLink own index y ∈ hTbl) (hR : rm'.frames + 1 ≤ rm.frames ∧ 8 + (maxL + 11) + rm'.locals ≤ rm.locals) (hsum : (st.map fun v => v.category).sum ≤ 8) (hsz : L.length = nL) (d : decode cc pc = .ok (.invokestatic index, 3)) (hcs : n + rm'.cells ≤ rm.cells ∧ z + rm'.slots ≤ rm.slots) (hq : pc + 3 = q) (kk : ∀ (x : Int32) (M1 : hM), pi x M1 → hG Γ k A Q M1 (n + rm'.cells) (z + rm'.slots) q L (.int x :: st)) : hG Γ k A Q M n z pc L (v1 :: st) := by
  refine gx_callS (As := [v1]) C Y hm hl hR hsum hsz hcs d rfl hq (fun r M1 hp => by
    obtain ⟨x, rfl, hx⟩ := hp
    exact kk x M1 hx)
theorem g_callS1L {q : Nat} {pi : Int64 → hM → Prop} {v1 : Value} (C : hC Γ l k own nm cc nL ret rm A) (Y : hYS y bytes maxL rt 1) (hm : hMet Γ l y bytes maxL rt rm' ([v1]) M (hpL pi)) (hl : Cond.methodLink own index y ∈ hTbl) (hR : rm'.frames + 1 ≤ rm.frames ∧ 8 + (maxL + 11) + rm'.locals ≤ rm.locals) (hsum : (st.map fun v => v.category).sum ≤ 8) (hsz : L.length = nL) (d : decode cc pc = .ok (.invokestatic index, 3)) (h0 : rm'.cells = 0 ∧ rm'.slots = 0) (hcs : n ≤ rm.cells ∧ z ≤ rm.slots) (hq : pc + 3 = q) (kk : ∀ (x : Int64) (M1 : hM), pi x M1 → hG Γ k A Q M1 n z q L (.long x :: st)) : hG Γ k A Q M n z pc L (v1 :: st) := by
  refine gx_callS (As := [v1]) C Y hm hl hR hsum hsz (by rw [h0.1, h0.2]; exact hcs) d rfl hq (fun r M1 hp => by
    obtain ⟨x, rfl, hx⟩ := hp
    exact (by rw [h0.1, h0.2]; exact kk x M1 hx))
theorem g_callS1Q {q : Nat} {pi : Option Nat → hM → Prop} {v1 : Value} (C : hC Γ l k own nm cc nL ret rm A) (Y : hYS y bytes maxL rt 1) (hm : hMet Γ l y bytes maxL rt rm' ([v1]) M (hpQ pi)) (hl : Cond.methodLink own index y ∈ hTbl) (hR : rm'.frames + 1 ≤ rm.frames ∧ 8 + (maxL + 11) + rm'.locals ≤ rm.locals) (hsum : (st.map fun v => v.category).sum ≤ 8) (hsz : L.length = nL) (d : decode cc pc = .ok (.invokestatic index, 3)) (h0 : rm'.cells = 0 ∧ rm'.slots = 0) (hcs : n ≤ rm.cells ∧ z ≤ rm.slots) (hq : pc + 3 = q) (kk : ∀ (x : Option Nat) (M1 : hM), pi x M1 → hG Γ k A Q M1 n z q L (va_rf x :: st)) : hG Γ k A Q M n z pc L (v1 :: st) := by
  refine gx_callS (As := [v1]) C Y hm hl hR hsum hsz (by rw [h0.1, h0.2]; exact hcs) d rfl hq (fun r M1 hp => by
    obtain ⟨x, rfl, hx⟩ := hp
    exact (by rw [h0.1, h0.2]; exact kk x M1 hx))
theorem g_callS1Qm {q : Nat} {pi : Option Nat → hM → Prop} {v1 : Value} (C : hC Γ l k own nm cc nL ret rm A) (Y : hYS y bytes maxL rt 1) (hm : hMet Γ l y bytes maxL rt rm' ([v1]) M (hpQ pi)) (hl : Cond.methodLink own index y ∈ hTbl) (hR : rm'.frames + 1 ≤ rm.frames ∧ 8 + (maxL + 11) + rm'.locals ≤ rm.locals) (hsum : (st.map fun v => v.category).sum ≤ 8) (hsz : L.length = nL) (d : decode cc pc = .ok (.invokestatic index, 3)) (hcs : n + rm'.cells ≤ rm.cells ∧ z + rm'.slots ≤ rm.slots) (hq : pc + 3 = q) (kk : ∀ (x : Option Nat) (M1 : hM), pi x M1 → hG Γ k A Q M1 (n + rm'.cells) (z + rm'.slots) q L (va_rf x :: st)) : hG Γ k A Q M n z pc L (v1 :: st) := by
  refine gx_callS (As := [v1]) C Y hm hl hR hsum hsz hcs d rfl hq (fun r M1 hp => by
    obtain ⟨x, rfl, hx⟩ := hp
    exact kk x M1 hx)
theorem g_callS1V {q : Nat} {pi : hM → Prop} {v1 : Value} (C : hC Γ l k own nm cc nL ret rm A) (Y : hYS y bytes maxL rt 1) (hm : hMet Γ l y bytes maxL rt rm' ([v1]) M (hpV pi)) (hl : Cond.methodLink own index y ∈ hTbl) (hR : rm'.frames + 1 ≤ rm.frames ∧ 8 + (maxL + 11) + rm'.locals ≤ rm.locals) (hsum : (st.map fun v => v.category).sum ≤ 8) (hsz : L.length = nL) (d : decode cc pc = .ok (.invokestatic index, 3)) (h0 : rm'.cells = 0 ∧ rm'.slots = 0) (hcs : n ≤ rm.cells ∧ z ≤ rm.slots) (hq : pc + 3 = q) (kk : ∀ M1 : hM, pi M1 → hG Γ k A Q M1 n z q L st) : hG Γ k A Q M n z pc L (v1 :: st) := by
  refine gx_callS (As := [v1]) C Y hm hl hR hsum hsz (by rw [h0.1, h0.2]; exact hcs) d rfl hq (fun r M1 hp => by
    obtain ⟨rfl, hx⟩ := hp
    exact (by rw [h0.1, h0.2]; exact kk M1 hx))
theorem g_callS1Vm {q : Nat} {pi : hM → Prop} {v1 : Value} (C : hC Γ l k own nm cc nL ret rm A) (Y : hYS y bytes maxL rt 1) (hm : hMet Γ l y bytes maxL rt rm' ([v1]) M (hpV pi)) (hl : Cond.methodLink own index y ∈ hTbl) (hR : rm'.frames + 1 ≤ rm.frames ∧ 8 + (maxL + 11) + rm'.locals ≤ rm.locals) (hsum : (st.map fun v => v.category).sum ≤ 8) (hsz : L.length = nL) (d : decode cc pc = .ok (.invokestatic index, 3)) (hcs : n + rm'.cells ≤ rm.cells ∧ z + rm'.slots ≤ rm.slots) (hq : pc + 3 = q) (kk : ∀ M1 : hM, pi M1 → hG Γ k A Q M1 (n + rm'.cells) (z + rm'.slots) q L st) : hG Γ k A Q M n z pc L (v1 :: st) := by
  refine gx_callS (As := [v1]) C Y hm hl hR hsum hsz hcs d rfl hq (fun r M1 hp => by
    obtain ⟨rfl, hx⟩ := hp
    exact kk M1 hx)
theorem g_callS2P {q : Nat} {e : Int32} {v1 v2 : Value} (C : hC Γ l k own nm cc nL ret rm A) (Y : hYS y bytes maxL rt 2) (hm : hMet Γ l y bytes maxL rt rm' ([v1, v2]) M (hpP M e)) (hl : Cond.methodLink own index y ∈ hTbl) (hR : rm'.frames + 1 ≤ rm.frames ∧ 8 + (maxL + 11) + rm'.locals ≤ rm.locals) (hsum : (st.map fun v => v.category).sum ≤ 8) (hsz : L.length = nL) (d : decode cc pc = .ok (.invokestatic index, 3)) (h0 : rm'.cells = 0 ∧ rm'.slots = 0) (hcs : n ≤ rm.cells ∧ z ≤ rm.slots) (hq : pc + 3 = q) (kk : hG Γ k A Q M n z q L (.int e :: st)) : hG Γ k A Q M n z pc L (v2 :: v1 :: st) := by
  refine gx_callS (As := [v1, v2]) C Y hm hl hR hsum hsz (by rw [h0.1, h0.2]; exact hcs) d rfl hq (fun r M1 hp => by
    obtain ⟨x, rfl, rfl, rfl⟩ := hp
    exact (by rw [h0.1, h0.2]; exact kk))
theorem g_callS2O {q : Nat} {e : Option Nat} {v1 v2 : Value} (C : hC Γ l k own nm cc nL ret rm A) (Y : hYS y bytes maxL rt 2) (hm : hMet Γ l y bytes maxL rt rm' ([v1, v2]) M (hpO M e)) (hl : Cond.methodLink own index y ∈ hTbl) (hR : rm'.frames + 1 ≤ rm.frames ∧ 8 + (maxL + 11) + rm'.locals ≤ rm.locals) (hsum : (st.map fun v => v.category).sum ≤ 8) (hsz : L.length = nL) (d : decode cc pc = .ok (.invokestatic index, 3)) (h0 : rm'.cells = 0 ∧ rm'.slots = 0) (hcs : n ≤ rm.cells ∧ z ≤ rm.slots) (hq : pc + 3 = q) (kk : hG Γ k A Q M n z q L (va_rf e :: st)) : hG Γ k A Q M n z pc L (v2 :: v1 :: st) := by
  refine gx_callS (As := [v1, v2]) C Y hm hl hR hsum hsz (by rw [h0.1, h0.2]; exact hcs) d rfl hq (fun r M1 hp => by
    obtain ⟨x, rfl, rfl, rfl⟩ := hp
    exact (by rw [h0.1, h0.2]; exact kk))
theorem g_callS2I {q : Nat} {pi : Int32 → hM → Prop} {v1 v2 : Value} (C : hC Γ l k own nm cc nL ret rm A) (Y : hYS y bytes maxL rt 2) (hm : hMet Γ l y bytes maxL rt rm' ([v1, v2]) M (hpI pi)) (hl : Cond.methodLink own index y ∈ hTbl) (hR : rm'.frames + 1 ≤ rm.frames ∧ 8 + (maxL + 11) + rm'.locals ≤ rm.locals) (hsum : (st.map fun v => v.category).sum ≤ 8) (hsz : L.length = nL) (d : decode cc pc = .ok (.invokestatic index, 3)) (h0 : rm'.cells = 0 ∧ rm'.slots = 0) (hcs : n ≤ rm.cells ∧ z ≤ rm.slots) (hq : pc + 3 = q) (kk : ∀ (x : Int32) (M1 : hM), pi x M1 → hG Γ k A Q M1 n z q L (.int x :: st)) : hG Γ k A Q M n z pc L (v2 :: v1 :: st) := by
  refine gx_callS (As := [v1, v2]) C Y hm hl hR hsum hsz (by rw [h0.1, h0.2]; exact hcs) d rfl hq (fun r M1 hp => by
    obtain ⟨x, rfl, hx⟩ := hp
    exact (by rw [h0.1, h0.2]; exact kk x M1 hx))
theorem g_callS2Im {q : Nat} {pi : Int32 → hM → Prop} {v1 v2 : Value} (C : hC Γ l k own nm cc nL ret rm A) (Y : hYS y bytes maxL rt 2) (hm : hMet Γ l y bytes maxL rt rm' ([v1, v2]) M (hpI pi)) (hl : Cond.methodLink own index y ∈ hTbl) (hR : rm'.frames + 1 ≤ rm.frames ∧ 8 + (maxL + 11) + rm'.locals ≤ rm.locals) (hsum : (st.map fun v => v.category).sum ≤ 8) (hsz : L.length = nL) (d : decode cc pc = .ok (.invokestatic index, 3)) (hcs : n + rm'.cells ≤ rm.cells ∧ z + rm'.slots ≤ rm.slots) (hq : pc + 3 = q) (kk : ∀ (x : Int32) (M1 : hM), pi x M1 → hG Γ k A Q M1 (n + rm'.cells) (z + rm'.slots) q L (.int x :: st)) : hG Γ k A Q M n z pc L (v2 :: v1 :: st) := by
  refine gx_callS (As := [v1, v2]) C Y hm hl hR hsum hsz hcs d rfl hq (fun r M1 hp => by
    obtain ⟨x, rfl, hx⟩ := hp
    exact kk x M1 hx)
theorem g_callS2L {q : Nat} {pi : Int64 → hM → Prop} {v1 v2 : Value} (C : hC Γ l k own nm cc nL ret rm A) (Y : hYS y bytes maxL rt 2) (hm : hMet Γ l y bytes maxL rt rm' ([v1, v2]) M (hpL pi)) (hl : Cond.methodLink own index y ∈ hTbl) (hR : rm'.frames + 1 ≤ rm.frames ∧ 8 + (maxL + 11) + rm'.locals ≤ rm.locals) (hsum : (st.map fun v => v.category).sum ≤ 8) (hsz : L.length = nL) (d : decode cc pc = .ok (.invokestatic index, 3)) (h0 : rm'.cells = 0 ∧ rm'.slots = 0) (hcs : n ≤ rm.cells ∧ z ≤ rm.slots) (hq : pc + 3 = q) (kk : ∀ (x : Int64) (M1 : hM), pi x M1 → hG Γ k A Q M1 n z q L (.long x :: st)) : hG Γ k A Q M n z pc L (v2 :: v1 :: st) := by
  refine gx_callS (As := [v1, v2]) C Y hm hl hR hsum hsz (by rw [h0.1, h0.2]; exact hcs) d rfl hq (fun r M1 hp => by
    obtain ⟨x, rfl, hx⟩ := hp
    exact (by rw [h0.1, h0.2]; exact kk x M1 hx))
theorem g_callS2Q {q : Nat} {pi : Option Nat → hM → Prop} {v1 v2 : Value} (C : hC Γ l k own nm cc nL ret rm A) (Y : hYS y bytes maxL rt 2) (hm : hMet Γ l y bytes maxL rt rm' ([v1, v2]) M (hpQ pi)) (hl : Cond.methodLink own index y ∈ hTbl) (hR : rm'.frames + 1 ≤ rm.frames ∧ 8 + (maxL + 11) + rm'.locals ≤ rm.locals) (hsum : (st.map fun v => v.category).sum ≤ 8) (hsz : L.length = nL) (d : decode cc pc = .ok (.invokestatic index, 3)) (h0 : rm'.cells = 0 ∧ rm'.slots = 0) (hcs : n ≤ rm.cells ∧ z ≤ rm.slots) (hq : pc + 3 = q) (kk : ∀ (x : Option Nat) (M1 : hM), pi x M1 → hG Γ k A Q M1 n z q L (va_rf x :: st)) : hG Γ k A Q M n z pc L (v2 :: v1 :: st) := by
  refine gx_callS (As := [v1, v2]) C Y hm hl hR hsum hsz (by rw [h0.1, h0.2]; exact hcs) d rfl hq (fun r M1 hp => by
    obtain ⟨x, rfl, hx⟩ := hp
    exact (by rw [h0.1, h0.2]; exact kk x M1 hx))
theorem g_callS2Qm {q : Nat} {pi : Option Nat → hM → Prop} {v1 v2 : Value} (C : hC Γ l k own nm cc nL ret rm A) (Y : hYS y bytes maxL rt 2) (hm : hMet Γ l y bytes maxL rt rm' ([v1, v2]) M (hpQ pi)) (hl : Cond.methodLink own index y ∈ hTbl) (hR : rm'.frames + 1 ≤ rm.frames ∧ 8 + (maxL + 11) + rm'.locals ≤ rm.locals) (hsum : (st.map fun v => v.category).sum ≤ 8) (hsz : L.length = nL) (d : decode cc pc = .ok (.invokestatic index, 3)) (hcs : n + rm'.cells ≤ rm.cells ∧ z + rm'.slots ≤ rm.slots) (hq : pc + 3 = q) (kk : ∀ (x : Option Nat) (M1 : hM), pi x M1 → hG Γ k A Q M1 (n + rm'.cells) (z + rm'.slots) q L (va_rf x :: st)) : hG Γ k A Q M n z pc L (v2 :: v1 :: st) := by
  refine gx_callS (As := [v1, v2]) C Y hm hl hR hsum hsz hcs d rfl hq (fun r M1 hp => by
    obtain ⟨x, rfl, hx⟩ := hp
    exact kk x M1 hx)
theorem g_callS2V {q : Nat} {pi : hM → Prop} {v1 v2 : Value} (C : hC Γ l k own nm cc nL ret rm A) (Y : hYS y bytes maxL rt 2) (hm : hMet Γ l y bytes maxL rt rm' ([v1, v2]) M (hpV pi)) (hl : Cond.methodLink own index y ∈ hTbl) (hR : rm'.frames + 1 ≤ rm.frames ∧ 8 + (maxL + 11) + rm'.locals ≤ rm.locals) (hsum : (st.map fun v => v.category).sum ≤ 8) (hsz : L.length = nL) (d : decode cc pc = .ok (.invokestatic index, 3)) (h0 : rm'.cells = 0 ∧ rm'.slots = 0) (hcs : n ≤ rm.cells ∧ z ≤ rm.slots) (hq : pc + 3 = q) (kk : ∀ M1 : hM, pi M1 → hG Γ k A Q M1 n z q L st) : hG Γ k A Q M n z pc L (v2 :: v1 :: st) := by
  refine gx_callS (As := [v1, v2]) C Y hm hl hR hsum hsz (by rw [h0.1, h0.2]; exact hcs) d rfl hq (fun r M1 hp => by
    obtain ⟨rfl, hx⟩ := hp
    exact (by rw [h0.1, h0.2]; exact kk M1 hx))
theorem g_callS2Vm {q : Nat} {pi : hM → Prop} {v1 v2 : Value} (C : hC Γ l k own nm cc nL ret rm A) (Y : hYS y bytes maxL rt 2) (hm : hMet Γ l y bytes maxL rt rm' ([v1, v2]) M (hpV pi)) (hl : Cond.methodLink own index y ∈ hTbl) (hR : rm'.frames + 1 ≤ rm.frames ∧ 8 + (maxL + 11) + rm'.locals ≤ rm.locals) (hsum : (st.map fun v => v.category).sum ≤ 8) (hsz : L.length = nL) (d : decode cc pc = .ok (.invokestatic index, 3)) (hcs : n + rm'.cells ≤ rm.cells ∧ z + rm'.slots ≤ rm.slots) (hq : pc + 3 = q) (kk : ∀ M1 : hM, pi M1 → hG Γ k A Q M1 (n + rm'.cells) (z + rm'.slots) q L st) : hG Γ k A Q M n z pc L (v2 :: v1 :: st) := by
  refine gx_callS (As := [v1, v2]) C Y hm hl hR hsum hsz hcs d rfl hq (fun r M1 hp => by
    obtain ⟨rfl, hx⟩ := hp
    exact kk M1 hx)
theorem g_callS3P {q : Nat} {e : Int32} {v1 v2 v3 : Value} (C : hC Γ l k own nm cc nL ret rm A) (Y : hYS y bytes maxL rt 3) (hm : hMet Γ l y bytes maxL rt rm' ([v1, v2, v3]) M (hpP M e)) (hl : Cond.methodLink own index y ∈ hTbl) (hR : rm'.frames + 1 ≤ rm.frames ∧ 8 + (maxL + 11) + rm'.locals ≤ rm.locals) (hsum : (st.map fun v => v.category).sum ≤ 8) (hsz : L.length = nL) (d : decode cc pc = .ok (.invokestatic index, 3)) (h0 : rm'.cells = 0 ∧ rm'.slots = 0) (hcs : n ≤ rm.cells ∧ z ≤ rm.slots) (hq : pc + 3 = q) (kk : hG Γ k A Q M n z q L (.int e :: st)) : hG Γ k A Q M n z pc L (v3 :: v2 :: v1 :: st) := by
  refine gx_callS (As := [v1, v2, v3]) C Y hm hl hR hsum hsz (by rw [h0.1, h0.2]; exact hcs) d rfl hq (fun r M1 hp => by
    obtain ⟨x, rfl, rfl, rfl⟩ := hp
    exact (by rw [h0.1, h0.2]; exact kk))
theorem g_callS3O {q : Nat} {e : Option Nat} {v1 v2 v3 : Value} (C : hC Γ l k own nm cc nL ret rm A) (Y : hYS y bytes maxL rt 3) (hm : hMet Γ l y bytes maxL rt rm' ([v1, v2, v3]) M (hpO M e)) (hl : Cond.methodLink own index y ∈ hTbl) (hR : rm'.frames + 1 ≤ rm.frames ∧ 8 + (maxL + 11) + rm'.locals ≤ rm.locals) (hsum : (st.map fun v => v.category).sum ≤ 8) (hsz : L.length = nL) (d : decode cc pc = .ok (.invokestatic index, 3)) (h0 : rm'.cells = 0 ∧ rm'.slots = 0) (hcs : n ≤ rm.cells ∧ z ≤ rm.slots) (hq : pc + 3 = q) (kk : hG Γ k A Q M n z q L (va_rf e :: st)) : hG Γ k A Q M n z pc L (v3 :: v2 :: v1 :: st) := by
  refine gx_callS (As := [v1, v2, v3]) C Y hm hl hR hsum hsz (by rw [h0.1, h0.2]; exact hcs) d rfl hq (fun r M1 hp => by
    obtain ⟨x, rfl, rfl, rfl⟩ := hp
    exact (by rw [h0.1, h0.2]; exact kk))
theorem g_callS3I {q : Nat} {pi : Int32 → hM → Prop} {v1 v2 v3 : Value} (C : hC Γ l k own nm cc nL ret rm A) (Y : hYS y bytes maxL rt 3) (hm : hMet Γ l y bytes maxL rt rm' ([v1, v2, v3]) M (hpI pi)) (hl : Cond.methodLink own index y ∈ hTbl) (hR : rm'.frames + 1 ≤ rm.frames ∧ 8 + (maxL + 11) + rm'.locals ≤ rm.locals) (hsum : (st.map fun v => v.category).sum ≤ 8) (hsz : L.length = nL) (d : decode cc pc = .ok (.invokestatic index, 3)) (h0 : rm'.cells = 0 ∧ rm'.slots = 0) (hcs : n ≤ rm.cells ∧ z ≤ rm.slots) (hq : pc + 3 = q) (kk : ∀ (x : Int32) (M1 : hM), pi x M1 → hG Γ k A Q M1 n z q L (.int x :: st)) : hG Γ k A Q M n z pc L (v3 :: v2 :: v1 :: st) := by
  refine gx_callS (As := [v1, v2, v3]) C Y hm hl hR hsum hsz (by rw [h0.1, h0.2]; exact hcs) d rfl hq (fun r M1 hp => by
    obtain ⟨x, rfl, hx⟩ := hp
    exact (by rw [h0.1, h0.2]; exact kk x M1 hx))
theorem g_callS3Im {q : Nat} {pi : Int32 → hM → Prop} {v1 v2 v3 : Value} (C : hC Γ l k own nm cc nL ret rm A) (Y : hYS y bytes maxL rt 3) (hm : hMet Γ l y bytes maxL rt rm' ([v1, v2, v3]) M (hpI pi)) (hl : Cond.methodLink own index y ∈ hTbl) (hR : rm'.frames + 1 ≤ rm.frames ∧ 8 + (maxL + 11) + rm'.locals ≤ rm.locals) (hsum : (st.map fun v => v.category).sum ≤ 8) (hsz : L.length = nL) (d : decode cc pc = .ok (.invokestatic index, 3)) (hcs : n + rm'.cells ≤ rm.cells ∧ z + rm'.slots ≤ rm.slots) (hq : pc + 3 = q) (kk : ∀ (x : Int32) (M1 : hM), pi x M1 → hG Γ k A Q M1 (n + rm'.cells) (z + rm'.slots) q L (.int x :: st)) : hG Γ k A Q M n z pc L (v3 :: v2 :: v1 :: st) := by
  refine gx_callS (As := [v1, v2, v3]) C Y hm hl hR hsum hsz hcs d rfl hq (fun r M1 hp => by
    obtain ⟨x, rfl, hx⟩ := hp
    exact kk x M1 hx)
theorem g_callS3L {q : Nat} {pi : Int64 → hM → Prop} {v1 v2 v3 : Value} (C : hC Γ l k own nm cc nL ret rm A) (Y : hYS y bytes maxL rt 3) (hm : hMet Γ l y bytes maxL rt rm' ([v1, v2, v3]) M (hpL pi)) (hl : Cond.methodLink own index y ∈ hTbl) (hR : rm'.frames + 1 ≤ rm.frames ∧ 8 + (maxL + 11) + rm'.locals ≤ rm.locals) (hsum : (st.map fun v => v.category).sum ≤ 8) (hsz : L.length = nL) (d : decode cc pc = .ok (.invokestatic index, 3)) (h0 : rm'.cells = 0 ∧ rm'.slots = 0) (hcs : n ≤ rm.cells ∧ z ≤ rm.slots) (hq : pc + 3 = q) (kk : ∀ (x : Int64) (M1 : hM), pi x M1 → hG Γ k A Q M1 n z q L (.long x :: st)) : hG Γ k A Q M n z pc L (v3 :: v2 :: v1 :: st) := by
  refine gx_callS (As := [v1, v2, v3]) C Y hm hl hR hsum hsz (by rw [h0.1, h0.2]; exact hcs) d rfl hq (fun r M1 hp => by
    obtain ⟨x, rfl, hx⟩ := hp
    exact (by rw [h0.1, h0.2]; exact kk x M1 hx))
theorem g_callS3Q {q : Nat} {pi : Option Nat → hM → Prop} {v1 v2 v3 : Value} (C : hC Γ l k own nm cc nL ret rm A) (Y : hYS y bytes maxL rt 3) (hm : hMet Γ l y bytes maxL rt rm' ([v1, v2, v3]) M (hpQ pi)) (hl : Cond.methodLink own index y ∈ hTbl) (hR : rm'.frames + 1 ≤ rm.frames ∧ 8 + (maxL + 11) + rm'.locals ≤ rm.locals) (hsum : (st.map fun v => v.category).sum ≤ 8) (hsz : L.length = nL) (d : decode cc pc = .ok (.invokestatic index, 3)) (h0 : rm'.cells = 0 ∧ rm'.slots = 0) (hcs : n ≤ rm.cells ∧ z ≤ rm.slots) (hq : pc + 3 = q) (kk : ∀ (x : Option Nat) (M1 : hM), pi x M1 → hG Γ k A Q M1 n z q L (va_rf x :: st)) : hG Γ k A Q M n z pc L (v3 :: v2 :: v1 :: st) := by
  refine gx_callS (As := [v1, v2, v3]) C Y hm hl hR hsum hsz (by rw [h0.1, h0.2]; exact hcs) d rfl hq (fun r M1 hp => by
    obtain ⟨x, rfl, hx⟩ := hp
    exact (by rw [h0.1, h0.2]; exact kk x M1 hx))
theorem g_callS3Qm {q : Nat} {pi : Option Nat → hM → Prop} {v1 v2 v3 : Value} (C : hC Γ l k own nm cc nL ret rm A) (Y : hYS y bytes maxL rt 3) (hm : hMet Γ l y bytes maxL rt rm' ([v1, v2, v3]) M (hpQ pi)) (hl : Cond.methodLink own index y ∈ hTbl) (hR : rm'.frames + 1 ≤ rm.frames ∧ 8 + (maxL + 11) + rm'.locals ≤ rm.locals) (hsum : (st.map fun v => v.category).sum ≤ 8) (hsz : L.length = nL) (d : decode cc pc = .ok (.invokestatic index, 3)) (hcs : n + rm'.cells ≤ rm.cells ∧ z + rm'.slots ≤ rm.slots) (hq : pc + 3 = q) (kk : ∀ (x : Option Nat) (M1 : hM), pi x M1 → hG Γ k A Q M1 (n + rm'.cells) (z + rm'.slots) q L (va_rf x :: st)) : hG Γ k A Q M n z pc L (v3 :: v2 :: v1 :: st) := by
  refine gx_callS (As := [v1, v2, v3]) C Y hm hl hR hsum hsz hcs d rfl hq (fun r M1 hp => by
    obtain ⟨x, rfl, hx⟩ := hp
    exact kk x M1 hx)
theorem g_callS3V {q : Nat} {pi : hM → Prop} {v1 v2 v3 : Value} (C : hC Γ l k own nm cc nL ret rm A) (Y : hYS y bytes maxL rt 3) (hm : hMet Γ l y bytes maxL rt rm' ([v1, v2, v3]) M (hpV pi)) (hl : Cond.methodLink own index y ∈ hTbl) (hR : rm'.frames + 1 ≤ rm.frames ∧ 8 + (maxL + 11) + rm'.locals ≤ rm.locals) (hsum : (st.map fun v => v.category).sum ≤ 8) (hsz : L.length = nL) (d : decode cc pc = .ok (.invokestatic index, 3)) (h0 : rm'.cells = 0 ∧ rm'.slots = 0) (hcs : n ≤ rm.cells ∧ z ≤ rm.slots) (hq : pc + 3 = q) (kk : ∀ M1 : hM, pi M1 → hG Γ k A Q M1 n z q L st) : hG Γ k A Q M n z pc L (v3 :: v2 :: v1 :: st) := by
  refine gx_callS (As := [v1, v2, v3]) C Y hm hl hR hsum hsz (by rw [h0.1, h0.2]; exact hcs) d rfl hq (fun r M1 hp => by
    obtain ⟨rfl, hx⟩ := hp
    exact (by rw [h0.1, h0.2]; exact kk M1 hx))
theorem g_callS3Vm {q : Nat} {pi : hM → Prop} {v1 v2 v3 : Value} (C : hC Γ l k own nm cc nL ret rm A) (Y : hYS y bytes maxL rt 3) (hm : hMet Γ l y bytes maxL rt rm' ([v1, v2, v3]) M (hpV pi)) (hl : Cond.methodLink own index y ∈ hTbl) (hR : rm'.frames + 1 ≤ rm.frames ∧ 8 + (maxL + 11) + rm'.locals ≤ rm.locals) (hsum : (st.map fun v => v.category).sum ≤ 8) (hsz : L.length = nL) (d : decode cc pc = .ok (.invokestatic index, 3)) (hcs : n + rm'.cells ≤ rm.cells ∧ z + rm'.slots ≤ rm.slots) (hq : pc + 3 = q) (kk : ∀ M1 : hM, pi M1 → hG Γ k A Q M1 (n + rm'.cells) (z + rm'.slots) q L st) : hG Γ k A Q M n z pc L (v3 :: v2 :: v1 :: st) := by
  refine gx_callS (As := [v1, v2, v3]) C Y hm hl hR hsum hsz hcs d rfl hq (fun r M1 hp => by
    obtain ⟨rfl, hx⟩ := hp
    exact kk M1 hx)
theorem g_callS4P {q : Nat} {e : Int32} {v1 v2 v3 v4 : Value} (C : hC Γ l k own nm cc nL ret rm A) (Y : hYS y bytes maxL rt 4) (hm : hMet Γ l y bytes maxL rt rm' ([v1, v2, v3, v4]) M (hpP M e)) (hl : Cond.methodLink own index y ∈ hTbl) (hR : rm'.frames + 1 ≤ rm.frames ∧ 8 + (maxL + 11) + rm'.locals ≤ rm.locals) (hsum : (st.map fun v => v.category).sum ≤ 8) (hsz : L.length = nL) (d : decode cc pc = .ok (.invokestatic index, 3)) (h0 : rm'.cells = 0 ∧ rm'.slots = 0) (hcs : n ≤ rm.cells ∧ z ≤ rm.slots) (hq : pc + 3 = q) (kk : hG Γ k A Q M n z q L (.int e :: st)) : hG Γ k A Q M n z pc L (v4 :: v3 :: v2 :: v1 :: st) := by
  refine gx_callS (As := [v1, v2, v3, v4]) C Y hm hl hR hsum hsz (by rw [h0.1, h0.2]; exact hcs) d rfl hq (fun r M1 hp => by
    obtain ⟨x, rfl, rfl, rfl⟩ := hp
    exact (by rw [h0.1, h0.2]; exact kk))
theorem g_callS4O {q : Nat} {e : Option Nat} {v1 v2 v3 v4 : Value} (C : hC Γ l k own nm cc nL ret rm A) (Y : hYS y bytes maxL rt 4) (hm : hMet Γ l y bytes maxL rt rm' ([v1, v2, v3, v4]) M (hpO M e)) (hl : Cond.methodLink own index y ∈ hTbl) (hR : rm'.frames + 1 ≤ rm.frames ∧ 8 + (maxL + 11) + rm'.locals ≤ rm.locals) (hsum : (st.map fun v => v.category).sum ≤ 8) (hsz : L.length = nL) (d : decode cc pc = .ok (.invokestatic index, 3)) (h0 : rm'.cells = 0 ∧ rm'.slots = 0) (hcs : n ≤ rm.cells ∧ z ≤ rm.slots) (hq : pc + 3 = q) (kk : hG Γ k A Q M n z q L (va_rf e :: st)) : hG Γ k A Q M n z pc L (v4 :: v3 :: v2 :: v1 :: st) := by
  refine gx_callS (As := [v1, v2, v3, v4]) C Y hm hl hR hsum hsz (by rw [h0.1, h0.2]; exact hcs) d rfl hq (fun r M1 hp => by
    obtain ⟨x, rfl, rfl, rfl⟩ := hp
    exact (by rw [h0.1, h0.2]; exact kk))
theorem g_callS4I {q : Nat} {pi : Int32 → hM → Prop} {v1 v2 v3 v4 : Value} (C : hC Γ l k own nm cc nL ret rm A) (Y : hYS y bytes maxL rt 4) (hm : hMet Γ l y bytes maxL rt rm' ([v1, v2, v3, v4]) M (hpI pi)) (hl : Cond.methodLink own index y ∈ hTbl) (hR : rm'.frames + 1 ≤ rm.frames ∧ 8 + (maxL + 11) + rm'.locals ≤ rm.locals) (hsum : (st.map fun v => v.category).sum ≤ 8) (hsz : L.length = nL) (d : decode cc pc = .ok (.invokestatic index, 3)) (h0 : rm'.cells = 0 ∧ rm'.slots = 0) (hcs : n ≤ rm.cells ∧ z ≤ rm.slots) (hq : pc + 3 = q) (kk : ∀ (x : Int32) (M1 : hM), pi x M1 → hG Γ k A Q M1 n z q L (.int x :: st)) : hG Γ k A Q M n z pc L (v4 :: v3 :: v2 :: v1 :: st) := by
  refine gx_callS (As := [v1, v2, v3, v4]) C Y hm hl hR hsum hsz (by rw [h0.1, h0.2]; exact hcs) d rfl hq (fun r M1 hp => by
    obtain ⟨x, rfl, hx⟩ := hp
    exact (by rw [h0.1, h0.2]; exact kk x M1 hx))
theorem g_callS4Im {q : Nat} {pi : Int32 → hM → Prop} {v1 v2 v3 v4 : Value} (C : hC Γ l k own nm cc nL ret rm A) (Y : hYS y bytes maxL rt 4) (hm : hMet Γ l y bytes maxL rt rm' ([v1, v2, v3, v4]) M (hpI pi)) (hl : Cond.methodLink own index y ∈ hTbl) (hR : rm'.frames + 1 ≤ rm.frames ∧ 8 + (maxL + 11) + rm'.locals ≤ rm.locals) (hsum : (st.map fun v => v.category).sum ≤ 8) (hsz : L.length = nL) (d : decode cc pc = .ok (.invokestatic index, 3)) (hcs : n + rm'.cells ≤ rm.cells ∧ z + rm'.slots ≤ rm.slots) (hq : pc + 3 = q) (kk : ∀ (x : Int32) (M1 : hM), pi x M1 → hG Γ k A Q M1 (n + rm'.cells) (z + rm'.slots) q L (.int x :: st)) : hG Γ k A Q M n z pc L (v4 :: v3 :: v2 :: v1 :: st) := by
  refine gx_callS (As := [v1, v2, v3, v4]) C Y hm hl hR hsum hsz hcs d rfl hq (fun r M1 hp => by
    obtain ⟨x, rfl, hx⟩ := hp
    exact kk x M1 hx)
theorem g_callS4L {q : Nat} {pi : Int64 → hM → Prop} {v1 v2 v3 v4 : Value} (C : hC Γ l k own nm cc nL ret rm A) (Y : hYS y bytes maxL rt 4) (hm : hMet Γ l y bytes maxL rt rm' ([v1, v2, v3, v4]) M (hpL pi)) (hl : Cond.methodLink own index y ∈ hTbl) (hR : rm'.frames + 1 ≤ rm.frames ∧ 8 + (maxL + 11) + rm'.locals ≤ rm.locals) (hsum : (st.map fun v => v.category).sum ≤ 8) (hsz : L.length = nL) (d : decode cc pc = .ok (.invokestatic index, 3)) (h0 : rm'.cells = 0 ∧ rm'.slots = 0) (hcs : n ≤ rm.cells ∧ z ≤ rm.slots) (hq : pc + 3 = q) (kk : ∀ (x : Int64) (M1 : hM), pi x M1 → hG Γ k A Q M1 n z q L (.long x :: st)) : hG Γ k A Q M n z pc L (v4 :: v3 :: v2 :: v1 :: st) := by
  refine gx_callS (As := [v1, v2, v3, v4]) C Y hm hl hR hsum hsz (by rw [h0.1, h0.2]; exact hcs) d rfl hq (fun r M1 hp => by
    obtain ⟨x, rfl, hx⟩ := hp
    exact (by rw [h0.1, h0.2]; exact kk x M1 hx))
theorem g_callS4Q {q : Nat} {pi : Option Nat → hM → Prop} {v1 v2 v3 v4 : Value} (C : hC Γ l k own nm cc nL ret rm A) (Y : hYS y bytes maxL rt 4) (hm : hMet Γ l y bytes maxL rt rm' ([v1, v2, v3, v4]) M (hpQ pi)) (hl : Cond.methodLink own index y ∈ hTbl) (hR : rm'.frames + 1 ≤ rm.frames ∧ 8 + (maxL + 11) + rm'.locals ≤ rm.locals) (hsum : (st.map fun v => v.category).sum ≤ 8) (hsz : L.length = nL) (d : decode cc pc = .ok (.invokestatic index, 3)) (h0 : rm'.cells = 0 ∧ rm'.slots = 0) (hcs : n ≤ rm.cells ∧ z ≤ rm.slots) (hq : pc + 3 = q) (kk : ∀ (x : Option Nat) (M1 : hM), pi x M1 → hG Γ k A Q M1 n z q L (va_rf x :: st)) : hG Γ k A Q M n z pc L (v4 :: v3 :: v2 :: v1 :: st) := by
  refine gx_callS (As := [v1, v2, v3, v4]) C Y hm hl hR hsum hsz (by rw [h0.1, h0.2]; exact hcs) d rfl hq (fun r M1 hp => by
    obtain ⟨x, rfl, hx⟩ := hp
    exact (by rw [h0.1, h0.2]; exact kk x M1 hx))
theorem g_callS4Qm {q : Nat} {pi : Option Nat → hM → Prop} {v1 v2 v3 v4 : Value} (C : hC Γ l k own nm cc nL ret rm A) (Y : hYS y bytes maxL rt 4) (hm : hMet Γ l y bytes maxL rt rm' ([v1, v2, v3, v4]) M (hpQ pi)) (hl : Cond.methodLink own index y ∈ hTbl) (hR : rm'.frames + 1 ≤ rm.frames ∧ 8 + (maxL + 11) + rm'.locals ≤ rm.locals) (hsum : (st.map fun v => v.category).sum ≤ 8) (hsz : L.length = nL) (d : decode cc pc = .ok (.invokestatic index, 3)) (hcs : n + rm'.cells ≤ rm.cells ∧ z + rm'.slots ≤ rm.slots) (hq : pc + 3 = q) (kk : ∀ (x : Option Nat) (M1 : hM), pi x M1 → hG Γ k A Q M1 (n + rm'.cells) (z + rm'.slots) q L (va_rf x :: st)) : hG Γ k A Q M n z pc L (v4 :: v3 :: v2 :: v1 :: st) := by
  refine gx_callS (As := [v1, v2, v3, v4]) C Y hm hl hR hsum hsz hcs d rfl hq (fun r M1 hp => by
    obtain ⟨x, rfl, hx⟩ := hp
    exact kk x M1 hx)
theorem g_callS4V {q : Nat} {pi : hM → Prop} {v1 v2 v3 v4 : Value} (C : hC Γ l k own nm cc nL ret rm A) (Y : hYS y bytes maxL rt 4) (hm : hMet Γ l y bytes maxL rt rm' ([v1, v2, v3, v4]) M (hpV pi)) (hl : Cond.methodLink own index y ∈ hTbl) (hR : rm'.frames + 1 ≤ rm.frames ∧ 8 + (maxL + 11) + rm'.locals ≤ rm.locals) (hsum : (st.map fun v => v.category).sum ≤ 8) (hsz : L.length = nL) (d : decode cc pc = .ok (.invokestatic index, 3)) (h0 : rm'.cells = 0 ∧ rm'.slots = 0) (hcs : n ≤ rm.cells ∧ z ≤ rm.slots) (hq : pc + 3 = q) (kk : ∀ M1 : hM, pi M1 → hG Γ k A Q M1 n z q L st) : hG Γ k A Q M n z pc L (v4 :: v3 :: v2 :: v1 :: st) := by
  refine gx_callS (As := [v1, v2, v3, v4]) C Y hm hl hR hsum hsz (by rw [h0.1, h0.2]; exact hcs) d rfl hq (fun r M1 hp => by
    obtain ⟨rfl, hx⟩ := hp
    exact (by rw [h0.1, h0.2]; exact kk M1 hx))
theorem g_callS4Vm {q : Nat} {pi : hM → Prop} {v1 v2 v3 v4 : Value} (C : hC Γ l k own nm cc nL ret rm A) (Y : hYS y bytes maxL rt 4) (hm : hMet Γ l y bytes maxL rt rm' ([v1, v2, v3, v4]) M (hpV pi)) (hl : Cond.methodLink own index y ∈ hTbl) (hR : rm'.frames + 1 ≤ rm.frames ∧ 8 + (maxL + 11) + rm'.locals ≤ rm.locals) (hsum : (st.map fun v => v.category).sum ≤ 8) (hsz : L.length = nL) (d : decode cc pc = .ok (.invokestatic index, 3)) (hcs : n + rm'.cells ≤ rm.cells ∧ z + rm'.slots ≤ rm.slots) (hq : pc + 3 = q) (kk : ∀ M1 : hM, pi M1 → hG Γ k A Q M1 (n + rm'.cells) (z + rm'.slots) q L st) : hG Γ k A Q M n z pc L (v4 :: v3 :: v2 :: v1 :: st) := by
  refine gx_callS (As := [v1, v2, v3, v4]) C Y hm hl hR hsum hsz hcs d rfl hq (fun r M1 hp => by
    obtain ⟨rfl, hx⟩ := hp
    exact kk M1 hx)
theorem g_callS5P {q : Nat} {e : Int32} {v1 v2 v3 v4 v5 : Value} (C : hC Γ l k own nm cc nL ret rm A) (Y : hYS y bytes maxL rt 5) (hm : hMet Γ l y bytes maxL rt rm' ([v1, v2, v3, v4, v5]) M (hpP M e)) (hl : Cond.methodLink own index y ∈ hTbl) (hR : rm'.frames + 1 ≤ rm.frames ∧ 8 + (maxL + 11) + rm'.locals ≤ rm.locals) (hsum : (st.map fun v => v.category).sum ≤ 8) (hsz : L.length = nL) (d : decode cc pc = .ok (.invokestatic index, 3)) (h0 : rm'.cells = 0 ∧ rm'.slots = 0) (hcs : n ≤ rm.cells ∧ z ≤ rm.slots) (hq : pc + 3 = q) (kk : hG Γ k A Q M n z q L (.int e :: st)) : hG Γ k A Q M n z pc L (v5 :: v4 :: v3 :: v2 :: v1 :: st) := by
  refine gx_callS (As := [v1, v2, v3, v4, v5]) C Y hm hl hR hsum hsz (by rw [h0.1, h0.2]; exact hcs) d rfl hq (fun r M1 hp => by
    obtain ⟨x, rfl, rfl, rfl⟩ := hp
    exact (by rw [h0.1, h0.2]; exact kk))
theorem g_callS5O {q : Nat} {e : Option Nat} {v1 v2 v3 v4 v5 : Value} (C : hC Γ l k own nm cc nL ret rm A) (Y : hYS y bytes maxL rt 5) (hm : hMet Γ l y bytes maxL rt rm' ([v1, v2, v3, v4, v5]) M (hpO M e)) (hl : Cond.methodLink own index y ∈ hTbl) (hR : rm'.frames + 1 ≤ rm.frames ∧ 8 + (maxL + 11) + rm'.locals ≤ rm.locals) (hsum : (st.map fun v => v.category).sum ≤ 8) (hsz : L.length = nL) (d : decode cc pc = .ok (.invokestatic index, 3)) (h0 : rm'.cells = 0 ∧ rm'.slots = 0) (hcs : n ≤ rm.cells ∧ z ≤ rm.slots) (hq : pc + 3 = q) (kk : hG Γ k A Q M n z q L (va_rf e :: st)) : hG Γ k A Q M n z pc L (v5 :: v4 :: v3 :: v2 :: v1 :: st) := by
  refine gx_callS (As := [v1, v2, v3, v4, v5]) C Y hm hl hR hsum hsz (by rw [h0.1, h0.2]; exact hcs) d rfl hq (fun r M1 hp => by
    obtain ⟨x, rfl, rfl, rfl⟩ := hp
    exact (by rw [h0.1, h0.2]; exact kk))
theorem g_callS5I {q : Nat} {pi : Int32 → hM → Prop} {v1 v2 v3 v4 v5 : Value} (C : hC Γ l k own nm cc nL ret rm A) (Y : hYS y bytes maxL rt 5) (hm : hMet Γ l y bytes maxL rt rm' ([v1, v2, v3, v4, v5]) M (hpI pi)) (hl : Cond.methodLink own index y ∈ hTbl) (hR : rm'.frames + 1 ≤ rm.frames ∧ 8 + (maxL + 11) + rm'.locals ≤ rm.locals) (hsum : (st.map fun v => v.category).sum ≤ 8) (hsz : L.length = nL) (d : decode cc pc = .ok (.invokestatic index, 3)) (h0 : rm'.cells = 0 ∧ rm'.slots = 0) (hcs : n ≤ rm.cells ∧ z ≤ rm.slots) (hq : pc + 3 = q) (kk : ∀ (x : Int32) (M1 : hM), pi x M1 → hG Γ k A Q M1 n z q L (.int x :: st)) : hG Γ k A Q M n z pc L (v5 :: v4 :: v3 :: v2 :: v1 :: st) := by
  refine gx_callS (As := [v1, v2, v3, v4, v5]) C Y hm hl hR hsum hsz (by rw [h0.1, h0.2]; exact hcs) d rfl hq (fun r M1 hp => by
    obtain ⟨x, rfl, hx⟩ := hp
    exact (by rw [h0.1, h0.2]; exact kk x M1 hx))
theorem g_callS5Im {q : Nat} {pi : Int32 → hM → Prop} {v1 v2 v3 v4 v5 : Value} (C : hC Γ l k own nm cc nL ret rm A) (Y : hYS y bytes maxL rt 5) (hm : hMet Γ l y bytes maxL rt rm' ([v1, v2, v3, v4, v5]) M (hpI pi)) (hl : Cond.methodLink own index y ∈ hTbl) (hR : rm'.frames + 1 ≤ rm.frames ∧ 8 + (maxL + 11) + rm'.locals ≤ rm.locals) (hsum : (st.map fun v => v.category).sum ≤ 8) (hsz : L.length = nL) (d : decode cc pc = .ok (.invokestatic index, 3)) (hcs : n + rm'.cells ≤ rm.cells ∧ z + rm'.slots ≤ rm.slots) (hq : pc + 3 = q) (kk : ∀ (x : Int32) (M1 : hM), pi x M1 → hG Γ k A Q M1 (n + rm'.cells) (z + rm'.slots) q L (.int x :: st)) : hG Γ k A Q M n z pc L (v5 :: v4 :: v3 :: v2 :: v1 :: st) := by
  refine gx_callS (As := [v1, v2, v3, v4, v5]) C Y hm hl hR hsum hsz hcs d rfl hq (fun r M1 hp => by
    obtain ⟨x, rfl, hx⟩ := hp
    exact kk x M1 hx)
theorem g_callS5L {q : Nat} {pi : Int64 → hM → Prop} {v1 v2 v3 v4 v5 : Value} (C : hC Γ l k own nm cc nL ret rm A) (Y : hYS y bytes maxL rt 5) (hm : hMet Γ l y bytes maxL rt rm' ([v1, v2, v3, v4, v5]) M (hpL pi)) (hl : Cond.methodLink own index y ∈ hTbl) (hR : rm'.frames + 1 ≤ rm.frames ∧ 8 + (maxL + 11) + rm'.locals ≤ rm.locals) (hsum : (st.map fun v => v.category).sum ≤ 8) (hsz : L.length = nL) (d : decode cc pc = .ok (.invokestatic index, 3)) (h0 : rm'.cells = 0 ∧ rm'.slots = 0) (hcs : n ≤ rm.cells ∧ z ≤ rm.slots) (hq : pc + 3 = q) (kk : ∀ (x : Int64) (M1 : hM), pi x M1 → hG Γ k A Q M1 n z q L (.long x :: st)) : hG Γ k A Q M n z pc L (v5 :: v4 :: v3 :: v2 :: v1 :: st) := by
  refine gx_callS (As := [v1, v2, v3, v4, v5]) C Y hm hl hR hsum hsz (by rw [h0.1, h0.2]; exact hcs) d rfl hq (fun r M1 hp => by
    obtain ⟨x, rfl, hx⟩ := hp
    exact (by rw [h0.1, h0.2]; exact kk x M1 hx))
theorem g_callS5Q {q : Nat} {pi : Option Nat → hM → Prop} {v1 v2 v3 v4 v5 : Value} (C : hC Γ l k own nm cc nL ret rm A) (Y : hYS y bytes maxL rt 5) (hm : hMet Γ l y bytes maxL rt rm' ([v1, v2, v3, v4, v5]) M (hpQ pi)) (hl : Cond.methodLink own index y ∈ hTbl) (hR : rm'.frames + 1 ≤ rm.frames ∧ 8 + (maxL + 11) + rm'.locals ≤ rm.locals) (hsum : (st.map fun v => v.category).sum ≤ 8) (hsz : L.length = nL) (d : decode cc pc = .ok (.invokestatic index, 3)) (h0 : rm'.cells = 0 ∧ rm'.slots = 0) (hcs : n ≤ rm.cells ∧ z ≤ rm.slots) (hq : pc + 3 = q) (kk : ∀ (x : Option Nat) (M1 : hM), pi x M1 → hG Γ k A Q M1 n z q L (va_rf x :: st)) : hG Γ k A Q M n z pc L (v5 :: v4 :: v3 :: v2 :: v1 :: st) := by
  refine gx_callS (As := [v1, v2, v3, v4, v5]) C Y hm hl hR hsum hsz (by rw [h0.1, h0.2]; exact hcs) d rfl hq (fun r M1 hp => by
    obtain ⟨x, rfl, hx⟩ := hp
    exact (by rw [h0.1, h0.2]; exact kk x M1 hx))
theorem g_callS5Qm {q : Nat} {pi : Option Nat → hM → Prop} {v1 v2 v3 v4 v5 : Value} (C : hC Γ l k own nm cc nL ret rm A) (Y : hYS y bytes maxL rt 5) (hm : hMet Γ l y bytes maxL rt rm' ([v1, v2, v3, v4, v5]) M (hpQ pi)) (hl : Cond.methodLink own index y ∈ hTbl) (hR : rm'.frames + 1 ≤ rm.frames ∧ 8 + (maxL + 11) + rm'.locals ≤ rm.locals) (hsum : (st.map fun v => v.category).sum ≤ 8) (hsz : L.length = nL) (d : decode cc pc = .ok (.invokestatic index, 3)) (hcs : n + rm'.cells ≤ rm.cells ∧ z + rm'.slots ≤ rm.slots) (hq : pc + 3 = q) (kk : ∀ (x : Option Nat) (M1 : hM), pi x M1 → hG Γ k A Q M1 (n + rm'.cells) (z + rm'.slots) q L (va_rf x :: st)) : hG Γ k A Q M n z pc L (v5 :: v4 :: v3 :: v2 :: v1 :: st) := by
  refine gx_callS (As := [v1, v2, v3, v4, v5]) C Y hm hl hR hsum hsz hcs d rfl hq (fun r M1 hp => by
    obtain ⟨x, rfl, hx⟩ := hp
    exact kk x M1 hx)
theorem g_callS5V {q : Nat} {pi : hM → Prop} {v1 v2 v3 v4 v5 : Value} (C : hC Γ l k own nm cc nL ret rm A) (Y : hYS y bytes maxL rt 5) (hm : hMet Γ l y bytes maxL rt rm' ([v1, v2, v3, v4, v5]) M (hpV pi)) (hl : Cond.methodLink own index y ∈ hTbl) (hR : rm'.frames + 1 ≤ rm.frames ∧ 8 + (maxL + 11) + rm'.locals ≤ rm.locals) (hsum : (st.map fun v => v.category).sum ≤ 8) (hsz : L.length = nL) (d : decode cc pc = .ok (.invokestatic index, 3)) (h0 : rm'.cells = 0 ∧ rm'.slots = 0) (hcs : n ≤ rm.cells ∧ z ≤ rm.slots) (hq : pc + 3 = q) (kk : ∀ M1 : hM, pi M1 → hG Γ k A Q M1 n z q L st) : hG Γ k A Q M n z pc L (v5 :: v4 :: v3 :: v2 :: v1 :: st) := by
  refine gx_callS (As := [v1, v2, v3, v4, v5]) C Y hm hl hR hsum hsz (by rw [h0.1, h0.2]; exact hcs) d rfl hq (fun r M1 hp => by
    obtain ⟨rfl, hx⟩ := hp
    exact (by rw [h0.1, h0.2]; exact kk M1 hx))
theorem g_callS5Vm {q : Nat} {pi : hM → Prop} {v1 v2 v3 v4 v5 : Value} (C : hC Γ l k own nm cc nL ret rm A) (Y : hYS y bytes maxL rt 5) (hm : hMet Γ l y bytes maxL rt rm' ([v1, v2, v3, v4, v5]) M (hpV pi)) (hl : Cond.methodLink own index y ∈ hTbl) (hR : rm'.frames + 1 ≤ rm.frames ∧ 8 + (maxL + 11) + rm'.locals ≤ rm.locals) (hsum : (st.map fun v => v.category).sum ≤ 8) (hsz : L.length = nL) (d : decode cc pc = .ok (.invokestatic index, 3)) (hcs : n + rm'.cells ≤ rm.cells ∧ z + rm'.slots ≤ rm.slots) (hq : pc + 3 = q) (kk : ∀ M1 : hM, pi M1 → hG Γ k A Q M1 (n + rm'.cells) (z + rm'.slots) q L st) : hG Γ k A Q M n z pc L (v5 :: v4 :: v3 :: v2 :: v1 :: st) := by
  refine gx_callS (As := [v1, v2, v3, v4, v5]) C Y hm hl hR hsum hsz hcs d rfl hq (fun r M1 hp => by
    obtain ⟨rfl, hx⟩ := hp
    exact kk M1 hx)
theorem g_callSN3P {q : Nat} {e : Int32} {host : String} {v1 v2 v3 : Value} (C : hC Γ l k own nm cc nL ret rm A) (Y : hYS y bytes maxL rt 3) (hm : hMet Γ l y bytes maxL rt rm' ([v1, v2, v3]) M (hpP M e)) (hl : Cond.methodLinkNest own index y host ∈ hNest) (hR : rm'.frames + 1 ≤ rm.frames ∧ 8 + (maxL + 11) + rm'.locals ≤ rm.locals) (hsum : (st.map fun v => v.category).sum ≤ 8) (hsz : L.length = nL) (d : decode cc pc = .ok (.invokestatic index, 3)) (h0 : rm'.cells = 0 ∧ rm'.slots = 0) (hcs : n ≤ rm.cells ∧ z ≤ rm.slots) (hq : pc + 3 = q) (kk : hG Γ k A Q M n z q L (.int e :: st)) : hG Γ k A Q M n z pc L (v3 :: v2 :: v1 :: st) := by
  refine gx_callSN (As := [v1, v2, v3]) C Y hm hl hR hsum hsz (by rw [h0.1, h0.2]; exact hcs) d rfl hq (fun r M1 hp => by
    obtain ⟨x, rfl, rfl, rfl⟩ := hp
    exact (by rw [h0.1, h0.2]; exact kk))
theorem g_callI0V {q : Nat} {pi : hM → Prop} {b : Nat} (C : hC Γ l k own nm cc nL ret rm A) (Y : hYI y bytes maxL 0) (hm : hMet Γ l y bytes maxL none rm' (.ref b :: []) M (hpV pi)) (hl : Cond.methodLink own index y ∈ hTbl) (hR : rm'.frames + 1 ≤ rm.frames ∧ 8 + (maxL + 11) + rm'.locals ≤ rm.locals) (hsum : (st.map fun v => v.category).sum ≤ 8) (hsz : L.length = nL) (d : decode cc pc = .ok (.invokespecial index, 3)) (h0 : rm'.cells = 0 ∧ rm'.slots = 0) (hcs : n ≤ rm.cells ∧ z ≤ rm.slots) (hq : pc + 3 = q) (kk : ∀ M1 : hM, pi M1 → hG Γ k A Q M1 n z q L st) : hG Γ k A Q M n z pc L (.ref b :: st) := by
  refine gx_callI (As := []) C Y hm hl hR hsum hsz (by rw [h0.1, h0.2]; exact hcs) d rfl hq (fun r M1 hp => by
    obtain ⟨rfl, hx⟩ := hp
    exact (by rw [h0.1, h0.2]; exact kk M1 hx))
theorem g_callI0Vm {q : Nat} {pi : hM → Prop} {b : Nat} (C : hC Γ l k own nm cc nL ret rm A) (Y : hYI y bytes maxL 0) (hm : hMet Γ l y bytes maxL none rm' (.ref b :: []) M (hpV pi)) (hl : Cond.methodLink own index y ∈ hTbl) (hR : rm'.frames + 1 ≤ rm.frames ∧ 8 + (maxL + 11) + rm'.locals ≤ rm.locals) (hsum : (st.map fun v => v.category).sum ≤ 8) (hsz : L.length = nL) (d : decode cc pc = .ok (.invokespecial index, 3)) (hcs : n + rm'.cells ≤ rm.cells ∧ z + rm'.slots ≤ rm.slots) (hq : pc + 3 = q) (kk : ∀ M1 : hM, pi M1 → hG Γ k A Q M1 (n + rm'.cells) (z + rm'.slots) q L st) : hG Γ k A Q M n z pc L (.ref b :: st) := by
  refine gx_callI (As := []) C Y hm hl hR hsum hsz hcs d rfl hq (fun r M1 hp => by
    obtain ⟨rfl, hx⟩ := hp
    exact kk M1 hx)
theorem g_callI1V {q : Nat} {pi : hM → Prop} {b : Nat} {v1 : Value} (C : hC Γ l k own nm cc nL ret rm A) (Y : hYI y bytes maxL 1) (hm : hMet Γ l y bytes maxL none rm' (.ref b :: [v1]) M (hpV pi)) (hl : Cond.methodLink own index y ∈ hTbl) (hR : rm'.frames + 1 ≤ rm.frames ∧ 8 + (maxL + 11) + rm'.locals ≤ rm.locals) (hsum : (st.map fun v => v.category).sum ≤ 8) (hsz : L.length = nL) (d : decode cc pc = .ok (.invokespecial index, 3)) (h0 : rm'.cells = 0 ∧ rm'.slots = 0) (hcs : n ≤ rm.cells ∧ z ≤ rm.slots) (hq : pc + 3 = q) (kk : ∀ M1 : hM, pi M1 → hG Γ k A Q M1 n z q L st) : hG Γ k A Q M n z pc L (v1 :: .ref b :: st) := by
  refine gx_callI (As := [v1]) C Y hm hl hR hsum hsz (by rw [h0.1, h0.2]; exact hcs) d rfl hq (fun r M1 hp => by
    obtain ⟨rfl, hx⟩ := hp
    exact (by rw [h0.1, h0.2]; exact kk M1 hx))
theorem g_callI1Vm {q : Nat} {pi : hM → Prop} {b : Nat} {v1 : Value} (C : hC Γ l k own nm cc nL ret rm A) (Y : hYI y bytes maxL 1) (hm : hMet Γ l y bytes maxL none rm' (.ref b :: [v1]) M (hpV pi)) (hl : Cond.methodLink own index y ∈ hTbl) (hR : rm'.frames + 1 ≤ rm.frames ∧ 8 + (maxL + 11) + rm'.locals ≤ rm.locals) (hsum : (st.map fun v => v.category).sum ≤ 8) (hsz : L.length = nL) (d : decode cc pc = .ok (.invokespecial index, 3)) (hcs : n + rm'.cells ≤ rm.cells ∧ z + rm'.slots ≤ rm.slots) (hq : pc + 3 = q) (kk : ∀ M1 : hM, pi M1 → hG Γ k A Q M1 (n + rm'.cells) (z + rm'.slots) q L st) : hG Γ k A Q M n z pc L (v1 :: .ref b :: st) := by
  refine gx_callI (As := [v1]) C Y hm hl hR hsum hsz hcs d rfl hq (fun r M1 hp => by
    obtain ⟨rfl, hx⟩ := hp
    exact kk M1 hx)
theorem g_callI2V {q : Nat} {pi : hM → Prop} {b : Nat} {v1 v2 : Value} (C : hC Γ l k own nm cc nL ret rm A) (Y : hYI y bytes maxL 2) (hm : hMet Γ l y bytes maxL none rm' (.ref b :: [v1, v2]) M (hpV pi)) (hl : Cond.methodLink own index y ∈ hTbl) (hR : rm'.frames + 1 ≤ rm.frames ∧ 8 + (maxL + 11) + rm'.locals ≤ rm.locals) (hsum : (st.map fun v => v.category).sum ≤ 8) (hsz : L.length = nL) (d : decode cc pc = .ok (.invokespecial index, 3)) (h0 : rm'.cells = 0 ∧ rm'.slots = 0) (hcs : n ≤ rm.cells ∧ z ≤ rm.slots) (hq : pc + 3 = q) (kk : ∀ M1 : hM, pi M1 → hG Γ k A Q M1 n z q L st) : hG Γ k A Q M n z pc L (v2 :: v1 :: .ref b :: st) := by
  refine gx_callI (As := [v1, v2]) C Y hm hl hR hsum hsz (by rw [h0.1, h0.2]; exact hcs) d rfl hq (fun r M1 hp => by
    obtain ⟨rfl, hx⟩ := hp
    exact (by rw [h0.1, h0.2]; exact kk M1 hx))
theorem g_callI2Vm {q : Nat} {pi : hM → Prop} {b : Nat} {v1 v2 : Value} (C : hC Γ l k own nm cc nL ret rm A) (Y : hYI y bytes maxL 2) (hm : hMet Γ l y bytes maxL none rm' (.ref b :: [v1, v2]) M (hpV pi)) (hl : Cond.methodLink own index y ∈ hTbl) (hR : rm'.frames + 1 ≤ rm.frames ∧ 8 + (maxL + 11) + rm'.locals ≤ rm.locals) (hsum : (st.map fun v => v.category).sum ≤ 8) (hsz : L.length = nL) (d : decode cc pc = .ok (.invokespecial index, 3)) (hcs : n + rm'.cells ≤ rm.cells ∧ z + rm'.slots ≤ rm.slots) (hq : pc + 3 = q) (kk : ∀ M1 : hM, pi M1 → hG Γ k A Q M1 (n + rm'.cells) (z + rm'.slots) q L st) : hG Γ k A Q M n z pc L (v2 :: v1 :: .ref b :: st) := by
  refine gx_callI (As := [v1, v2]) C Y hm hl hR hsum hsz hcs d rfl hq (fun r M1 hp => by
    obtain ⟨rfl, hx⟩ := hp
    exact kk M1 hx)
theorem g_callI3V {q : Nat} {pi : hM → Prop} {b : Nat} {v1 v2 v3 : Value} (C : hC Γ l k own nm cc nL ret rm A) (Y : hYI y bytes maxL 3) (hm : hMet Γ l y bytes maxL none rm' (.ref b :: [v1, v2, v3]) M (hpV pi)) (hl : Cond.methodLink own index y ∈ hTbl) (hR : rm'.frames + 1 ≤ rm.frames ∧ 8 + (maxL + 11) + rm'.locals ≤ rm.locals) (hsum : (st.map fun v => v.category).sum ≤ 8) (hsz : L.length = nL) (d : decode cc pc = .ok (.invokespecial index, 3)) (h0 : rm'.cells = 0 ∧ rm'.slots = 0) (hcs : n ≤ rm.cells ∧ z ≤ rm.slots) (hq : pc + 3 = q) (kk : ∀ M1 : hM, pi M1 → hG Γ k A Q M1 n z q L st) : hG Γ k A Q M n z pc L (v3 :: v2 :: v1 :: .ref b :: st) := by
  refine gx_callI (As := [v1, v2, v3]) C Y hm hl hR hsum hsz (by rw [h0.1, h0.2]; exact hcs) d rfl hq (fun r M1 hp => by
    obtain ⟨rfl, hx⟩ := hp
    exact (by rw [h0.1, h0.2]; exact kk M1 hx))
theorem g_callI3Vm {q : Nat} {pi : hM → Prop} {b : Nat} {v1 v2 v3 : Value} (C : hC Γ l k own nm cc nL ret rm A) (Y : hYI y bytes maxL 3) (hm : hMet Γ l y bytes maxL none rm' (.ref b :: [v1, v2, v3]) M (hpV pi)) (hl : Cond.methodLink own index y ∈ hTbl) (hR : rm'.frames + 1 ≤ rm.frames ∧ 8 + (maxL + 11) + rm'.locals ≤ rm.locals) (hsum : (st.map fun v => v.category).sum ≤ 8) (hsz : L.length = nL) (d : decode cc pc = .ok (.invokespecial index, 3)) (hcs : n + rm'.cells ≤ rm.cells ∧ z + rm'.slots ≤ rm.slots) (hq : pc + 3 = q) (kk : ∀ M1 : hM, pi M1 → hG Γ k A Q M1 (n + rm'.cells) (z + rm'.slots) q L st) : hG Γ k A Q M n z pc L (v3 :: v2 :: v1 :: .ref b :: st) := by
  refine gx_callI (As := [v1, v2, v3]) C Y hm hl hR hsum hsz hcs d rfl hq (fun r M1 hp => by
    obtain ⟨rfl, hx⟩ := hp
    exact kk M1 hx)
theorem g_callI4V {q : Nat} {pi : hM → Prop} {b : Nat} {v1 v2 v3 v4 : Value} (C : hC Γ l k own nm cc nL ret rm A) (Y : hYI y bytes maxL 4) (hm : hMet Γ l y bytes maxL none rm' (.ref b :: [v1, v2, v3, v4]) M (hpV pi)) (hl : Cond.methodLink own index y ∈ hTbl) (hR : rm'.frames + 1 ≤ rm.frames ∧ 8 + (maxL + 11) + rm'.locals ≤ rm.locals) (hsum : (st.map fun v => v.category).sum ≤ 8) (hsz : L.length = nL) (d : decode cc pc = .ok (.invokespecial index, 3)) (h0 : rm'.cells = 0 ∧ rm'.slots = 0) (hcs : n ≤ rm.cells ∧ z ≤ rm.slots) (hq : pc + 3 = q) (kk : ∀ M1 : hM, pi M1 → hG Γ k A Q M1 n z q L st) : hG Γ k A Q M n z pc L (v4 :: v3 :: v2 :: v1 :: .ref b :: st) := by
  refine gx_callI (As := [v1, v2, v3, v4]) C Y hm hl hR hsum hsz (by rw [h0.1, h0.2]; exact hcs) d rfl hq (fun r M1 hp => by
    obtain ⟨rfl, hx⟩ := hp
    exact (by rw [h0.1, h0.2]; exact kk M1 hx))
theorem g_callI4Vm {q : Nat} {pi : hM → Prop} {b : Nat} {v1 v2 v3 v4 : Value} (C : hC Γ l k own nm cc nL ret rm A) (Y : hYI y bytes maxL 4) (hm : hMet Γ l y bytes maxL none rm' (.ref b :: [v1, v2, v3, v4]) M (hpV pi)) (hl : Cond.methodLink own index y ∈ hTbl) (hR : rm'.frames + 1 ≤ rm.frames ∧ 8 + (maxL + 11) + rm'.locals ≤ rm.locals) (hsum : (st.map fun v => v.category).sum ≤ 8) (hsz : L.length = nL) (d : decode cc pc = .ok (.invokespecial index, 3)) (hcs : n + rm'.cells ≤ rm.cells ∧ z + rm'.slots ≤ rm.slots) (hq : pc + 3 = q) (kk : ∀ M1 : hM, pi M1 → hG Γ k A Q M1 (n + rm'.cells) (z + rm'.slots) q L st) : hG Γ k A Q M n z pc L (v4 :: v3 :: v2 :: v1 :: .ref b :: st) := by
  refine gx_callI (As := [v1, v2, v3, v4]) C Y hm hl hR hsum hsz hcs d rfl hq (fun r M1 hp => by
    obtain ⟨rfl, hx⟩ := hp
    exact kk M1 hx)
theorem g_callI5V {q : Nat} {pi : hM → Prop} {b : Nat} {v1 v2 v3 v4 v5 : Value} (C : hC Γ l k own nm cc nL ret rm A) (Y : hYI y bytes maxL 5) (hm : hMet Γ l y bytes maxL none rm' (.ref b :: [v1, v2, v3, v4, v5]) M (hpV pi)) (hl : Cond.methodLink own index y ∈ hTbl) (hR : rm'.frames + 1 ≤ rm.frames ∧ 8 + (maxL + 11) + rm'.locals ≤ rm.locals) (hsum : (st.map fun v => v.category).sum ≤ 8) (hsz : L.length = nL) (d : decode cc pc = .ok (.invokespecial index, 3)) (h0 : rm'.cells = 0 ∧ rm'.slots = 0) (hcs : n ≤ rm.cells ∧ z ≤ rm.slots) (hq : pc + 3 = q) (kk : ∀ M1 : hM, pi M1 → hG Γ k A Q M1 n z q L st) : hG Γ k A Q M n z pc L (v5 :: v4 :: v3 :: v2 :: v1 :: .ref b :: st) := by
  refine gx_callI (As := [v1, v2, v3, v4, v5]) C Y hm hl hR hsum hsz (by rw [h0.1, h0.2]; exact hcs) d rfl hq (fun r M1 hp => by
    obtain ⟨rfl, hx⟩ := hp
    exact (by rw [h0.1, h0.2]; exact kk M1 hx))
theorem g_callI5Vm {q : Nat} {pi : hM → Prop} {b : Nat} {v1 v2 v3 v4 v5 : Value} (C : hC Γ l k own nm cc nL ret rm A) (Y : hYI y bytes maxL 5) (hm : hMet Γ l y bytes maxL none rm' (.ref b :: [v1, v2, v3, v4, v5]) M (hpV pi)) (hl : Cond.methodLink own index y ∈ hTbl) (hR : rm'.frames + 1 ≤ rm.frames ∧ 8 + (maxL + 11) + rm'.locals ≤ rm.locals) (hsum : (st.map fun v => v.category).sum ≤ 8) (hsz : L.length = nL) (d : decode cc pc = .ok (.invokespecial index, 3)) (hcs : n + rm'.cells ≤ rm.cells ∧ z + rm'.slots ≤ rm.slots) (hq : pc + 3 = q) (kk : ∀ M1 : hM, pi M1 → hG Γ k A Q M1 (n + rm'.cells) (z + rm'.slots) q L st) : hG Γ k A Q M n z pc L (v5 :: v4 :: v3 :: v2 :: v1 :: .ref b :: st) := by
  refine gx_callI (As := [v1, v2, v3, v4, v5]) C Y hm hl hR hsum hsz hcs d rfl hq (fun r M1 hp => by
    obtain ⟨rfl, hx⟩ := hp
    exact kk M1 hx)
theorem g_callIN0V {q : Nat} {pi : hM → Prop} {b : Nat} {host : String} (C : hC Γ l k own nm cc nL ret rm A) (Y : hYI y bytes maxL 0) (hm : hMet Γ l y bytes maxL none rm' (.ref b :: []) M (hpV pi)) (hl : Cond.methodLinkNest own index y host ∈ hNest) (hR : rm'.frames + 1 ≤ rm.frames ∧ 8 + (maxL + 11) + rm'.locals ≤ rm.locals) (hsum : (st.map fun v => v.category).sum ≤ 8) (hsz : L.length = nL) (d : decode cc pc = .ok (.invokespecial index, 3)) (h0 : rm'.cells = 0 ∧ rm'.slots = 0) (hcs : n ≤ rm.cells ∧ z ≤ rm.slots) (hq : pc + 3 = q) (kk : ∀ M1 : hM, pi M1 → hG Γ k A Q M1 n z q L st) : hG Γ k A Q M n z pc L (.ref b :: st) := by
  refine gx_callIN (As := []) C Y hm hl hR hsum hsz (by rw [h0.1, h0.2]; exact hcs) d rfl hq (fun r M1 hp => by
    obtain ⟨rfl, hx⟩ := hp
    exact (by rw [h0.1, h0.2]; exact kk M1 hx))
theorem g_callIN0Vm {q : Nat} {pi : hM → Prop} {b : Nat} {host : String} (C : hC Γ l k own nm cc nL ret rm A) (Y : hYI y bytes maxL 0) (hm : hMet Γ l y bytes maxL none rm' (.ref b :: []) M (hpV pi)) (hl : Cond.methodLinkNest own index y host ∈ hNest) (hR : rm'.frames + 1 ≤ rm.frames ∧ 8 + (maxL + 11) + rm'.locals ≤ rm.locals) (hsum : (st.map fun v => v.category).sum ≤ 8) (hsz : L.length = nL) (d : decode cc pc = .ok (.invokespecial index, 3)) (hcs : n + rm'.cells ≤ rm.cells ∧ z + rm'.slots ≤ rm.slots) (hq : pc + 3 = q) (kk : ∀ M1 : hM, pi M1 → hG Γ k A Q M1 (n + rm'.cells) (z + rm'.slots) q L st) : hG Γ k A Q M n z pc L (.ref b :: st) := by
  refine gx_callIN (As := []) C Y hm hl hR hsum hsz hcs d rfl hq (fun r M1 hp => by
    obtain ⟨rfl, hx⟩ := hp
    exact kk M1 hx)
end Cl
end hRows3
