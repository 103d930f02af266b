/-! ===== arrays of arrays ===== -/
abbrev aR (Γ : hGam) (N : Nat) (f : Nat → Option Nat) : va_E := .inl (Γ.2.1 4, N, .inr (.inr (.inr (.inr f))))
abbrev aRR (Γ : hGam) (N : Nat) (f : Nat → Option Nat) : va_E := .inl (Γ.2.1 5, N, .inr (.inr (.inr (.inr f))))
abbrev aRZ (Γ : hGam) (N : Nat) (f : Nat → Option Nat) : va_E := .inl (Γ.2.1 6, N, .inr (.inr (.inr (.inr f))))
theorem asg_aux (vm : Vm) (n : Nat) (c : ClassId) : vm.assignableAux (n + 1) c c = true := by
  unfold Vm.assignableAux
  simp
theorem asg_self (vm : Vm) (c : ClassId) : vm.assignable c c = true := asg_aux vm 255 c
theorem hAOA.use {t : FieldType} {U : State} (h : hAOA t U) (args : Array Value) : (Cond.arrayOver (.array t)).before args U = true := over_moved (a := #[]) (a' := args) (Vm.Alike.refl _) h
section hAst
variable {p : Program} {l : Launch} {e : Env} {R : Room} {s : State} {m : MethodId} {args : Array Value} {below : List Frame} {meth : Method} {c : Code} {H : Heap} {locs : List Loc} {cells slots : Nat} {Q : State → Prop} {cc : ByteArray}
theorem aoa_null0 {T : State} (X : Stand p l e R s m args below meth c T locs cells slots) (hexec : p.tables.exec = Jvm.exec) {a : Addr} {cell : Cell} {t : FieldType} {j : Int32} (hcell : T.heap[a]? = some cell) (harr : s.isArrayOf cell (.array t)) (hknown : cell.vm ≠ .unknown)
    (hin : ¬ (j < 0 ∨ cell.slots.size ≤ j.toNatClampNeg))
    {g : JFrame} (hg : g.method = m) {rest : List Value} (hstack : g.stack = .null :: .int j :: .ref a :: rest) (hdg : decode c.code g.pc = .ok (.aastore, 1)) :
    Stand p l e R s m args below meth c (T.setCell a (cell.setSlot j.toNatClampNeg .null)) (locs ++ [⟨a, j.toNatClampNeg⟩]) cells slots ∧
      ∀ target, Steps p.tables e below ((T.setCell a (cell.setSlot j.toNatClampNeg .null)).setTop { g with pc := g.pc + 1, stack := rest }) target → Steps p.tables e below (T.setTop g) target := by
  have hT := State.isArrayOf_alike X.warmed.alike harr
  have hfit : T.fitsSlot cell.cls cell.vm j.toNatClampNeg .null = true := by
    obtain ⟨hobj, k, hk, comp, hkind⟩ := hT
    cases hvm : cell.vm <;> first | exact absurd hvm (hobj _) | simp [State.fitsSlot, State.slotType?, hk, hkind, fits]
  refine ⟨X.stored hcell _ _, fun target hrest => ?_⟩
  subst hg
  jvm_step X.here [hexec, hdg]
  refine aastore.wp_of_null (c := cell) (t := .array t) X.here.top hstack hcell hT hin hknown (Nat.not_le.mp fun q => hin (Or.inr q)) hfit ?_
  intro acts
  rw [afterInstr_ok]
  exact hrest
theorem aoa_null (hexec : p.tables.exec = Jvm.exec) (hb : c.code = cc) {a : Addr} {cell : Cell} {t : FieldType} {j : Int32} (hcell : H[a]? = some cell) (harr : s.isArrayOf cell (.array t)) (hknown : cell.vm ≠ .unknown) (hin : ¬ (j < 0 ∨ cell.slots.size ≤ j.toNatClampNeg))
    {g : JFrame} (hg : g.method = m) {rest : List Value} (hstack : g.stack = .null :: .int j :: .ref a :: rest) (hdg : decode cc g.pc = .ok (.aastore, 1))
    (kk : ∀ H' : Heap, H'[a]? = some (cell.setSlot j.toNatClampNeg .null) → H'.size = H.size → (∀ q, q ≠ a → H'[q]? = H[q]?) → W p l e R s m args below meth c H' (locs ++ [⟨a, j.toNatClampNeg⟩]) cells slots Q { g with pc := g.pc + 1, stack := rest }) :
    W p l e R s m args below meth c H locs cells slots Q g := by
  intro T hT X
  have hT' : T.heap[a]? = some cell := by rw [hT]; exact hcell
  obtain ⟨X', st⟩ := aoa_null0 X hexec hT' harr hknown hin hg hstack (by rw [hb]; exact hdg)
  have hlt : a < T.heap.size := (Array.getElem?_eq_some_iff.mp hT').1
  obtain ⟨t', a1, b1⟩ := kk _ (heapAt_setCell_self _ hlt) (by rw [size_setCell, hT]) (fun q hq => by rw [heapAt_setCell_ne _ (Ne.symm hq), hT]) (T.setCell a (cell.setSlot j.toNatClampNeg .null)) rfl X'
  exact ⟨t', st t' a1, b1⟩
/-- the class of an array of arrays, by its name, as the tables have it -/
theorem aoa_of {t : FieldType} {U : State} {cA : ClassId} (h : hAOA t U) (hn : va_RA U cA (.array t)) : ∃ (kA : Class) (comp : ClassId), U.vm.classes[cA]? = some kA ∧ kA.kind = .array comp (.array t) ∧ U.vm.findClass (FieldType.array t).toString = some comp ∧ U.vm.findClass ("[" ++ (FieldType.array t).toString) = some cA := by
  obtain ⟨comp, c, k, h1, -, h3, h4, h5⟩ := arrayOverA_spec h
  have hn' : U.vm.findClass ("[" ++ (FieldType.array t).toString) = some cA := hn
  have e : c = cA := Option.some.inj (h5.symm.trans hn')
  subst e
  exact ⟨k, comp, h3, h4, h1, h5⟩
theorem aoa_ac {t : FieldType} {U : State} {args : Array Value} (h : hAOA t U) : (Cond.arrayClass (.array t)).before args U = true := by
  obtain ⟨comp, c, k, h1, -, h3, h4, h5⟩ := arrayOverA_spec h
  show (Cond.arrayClass (.array t)).holds args U none U [] = true
  simp [Cond.holds, Cond.value, h5, h3, h4]
end hAst
section hRows2b
variable {Γ : hGam} {l : Launch} {k : hCtx} {own nm : String} {cc : ByteArray} {nL : Nat} {ret : Option FieldType} {rm : Room} {A : Nat → Prop} {Q : State → Prop} {M : hM} {n z pc : Nat} {L : List (Option Value)} {st : List Value}
theorem C_aoaI {Γ : hGam} (C : hC Γ l k own nm cc nL ret rm A) : hAOA .int (kS k) := C.hx.2.2.2.2.2.2.2.1.1
theorem C_aoaZ {Γ : hGam} (C : hC Γ l k own nm cc nL ret rm A) : hAOA .boolean (kS k) := C.hx.2.2.2.2.2.2.2.1.2.1
theorem C_aoaR {Γ : hGam} (C : hC Γ l k own nm cc nL ret rm A) : hAOA (.array .int) (kS k) := C.hx.2.2.2.2.2.2.2.1.2.2
theorem sI0 : FieldType.int.toString = "I" := by decide +kernel
theorem sI : (FieldType.array .int).toString = "[I" := by decide +kernel
theorem sII : (FieldType.array (.array .int)).toString = "[[I" := by decide +kernel
theorem sZ : (FieldType.array .boolean).toString = "[Z" := by decide +kernel
theorem nm_I (C : hC Γ l k own nm cc nL ret rm A) : (kS k).vm.findClass (FieldType.array .int).toString = some (Γ.2.1 0) := by rw [sI]; exact va_nm_int (C.hk.2 0 _ rfl).2
theorem nm_Z (C : hC Γ l k own nm cc nL ret rm A) : (kS k).vm.findClass (FieldType.array .boolean).toString = some (Γ.2.1 1) := (C.hk.2 1 _ rfl).2
theorem nm_II (C : hC Γ l k own nm cc nL ret rm A) : (kS k).vm.findClass (FieldType.array (.array .int)).toString = some (Γ.2.1 4) := (C.hk.2 4 _ rfl).2
theorem g_aaldR {q a N : Nat} {w : Bool} {f : Nat → Option Nat} {i : Int32} {v : Value} (C : hC Γ l k own nm cc nL ret rm A) (j : Nat) (hi : i = nI j) (hj : j < N) (hN : N < 2 ^ 31) (d : decode cc pc = .ok (.aaload, 1)) (hM : M a = some (w, aR Γ N f)) (hv : va_rf (f j) = v) (hq : pc + 1 = q) (kk : hG Γ k A Q M n z q L (v :: st)) : hG Γ k A Q M n z pc L (.int i :: .ref a :: st) := by
  subst hq; subst hv
  intro H locs ls h1 h2 h3 h4
  have hin := h_in hi hj hN
  have hcl := h_cl hi hj hN
  exact W.aald (v := va_rf (f j)) (ty := .array .int) C.ex C.cd (h1.oneA hM (by show N ≠ 0; omega) 0 _ rfl) ((C.hk.2 4 _ rfl).1 N (fun j => va_rf (f j))) rfl (fun q => by cases q) (by show ¬ (i < 0 ∨ (arrV _ _ _).slots.size ≤ _); rw [arrV_size]; exact hin) (by show (arrV _ _ _).slots[_]? = _; rw [hcl, arrV_read _ _ hj]) rfl rfl d (kk H locs ls h1 h2 h3 h4)
theorem g_aaldRR {q a N : Nat} {w : Bool} {f : Nat → Option Nat} {i : Int32} {v : Value} (C : hC Γ l k own nm cc nL ret rm A) (j : Nat) (hi : i = nI j) (hj : j < N) (hN : N < 2 ^ 31) (d : decode cc pc = .ok (.aaload, 1)) (hM : M a = some (w, aRR Γ N f)) (hv : va_rf (f j) = v) (hq : pc + 1 = q) (kk : hG Γ k A Q M n z q L (v :: st)) : hG Γ k A Q M n z pc L (.int i :: .ref a :: st) := by
  subst hq; subst hv
  intro H locs ls h1 h2 h3 h4
  have hin := h_in hi hj hN
  have hcl := h_cl hi hj hN
  exact W.aald (v := va_rf (f j)) (ty := .array (.array .int)) C.ex C.cd (h1.oneA hM (by show N ≠ 0; omega) 0 _ rfl) ((C.hk.2 5 _ rfl).1 N (fun j => va_rf (f j))) rfl (fun q => by cases q) (by show ¬ (i < 0 ∨ (arrV _ _ _).slots.size ≤ _); rw [arrV_size]; exact hin) (by show (arrV _ _ _).slots[_]? = _; rw [hcl, arrV_read _ _ hj]) rfl rfl d (kk H locs ls h1 h2 h3 h4)
theorem g_aaldRZ {q a N : Nat} {w : Bool} {f : Nat → Option Nat} {i : Int32} {v : Value} (C : hC Γ l k own nm cc nL ret rm A) (j : Nat) (hi : i = nI j) (hj : j < N) (hN : N < 2 ^ 31) (d : decode cc pc = .ok (.aaload, 1)) (hM : M a = some (w, aRZ Γ N f)) (hv : va_rf (f j) = v) (hq : pc + 1 = q) (kk : hG Γ k A Q M n z q L (v :: st)) : hG Γ k A Q M n z pc L (.int i :: .ref a :: st) := by
  subst hq; subst hv
  intro H locs ls h1 h2 h3 h4
  have hin := h_in hi hj hN
  have hcl := h_cl hi hj hN
  exact W.aald (v := va_rf (f j)) (ty := .array .boolean) C.ex C.cd (h1.oneA hM (by show N ≠ 0; omega) 0 _ rfl) ((C.hk.2 6 _ rfl).1 N (fun j => va_rf (f j))) rfl (fun q => by cases q) (by show ¬ (i < 0 ∨ (arrV _ _ _).slots.size ≤ _); rw [arrV_size]; exact hin) (by show (arrV _ _ _).slots[_]? = _; rw [hcl, arrV_read _ _ hj]) rfl rfl d (kk H locs ls h1 h2 h3 h4)
theorem g_alenR {q a N : Nat} {w : Bool} {f : Nat → Option Nat} (C : hC Γ l k own nm cc nL ret rm A) (d : decode cc pc = .ok (.arraylength, 1)) (hM : M a = some (w, aR Γ N f)) (hq : pc + 1 = q) (kk : hG Γ k A Q M n z q L (.int (nI N) :: st)) : hG Γ k A Q M n z pc L (.ref a :: st) := by
  subst hq
  intro H locs ls h1 h2 h3 h4
  rcases h1 a _ hM with z9 | ⟨⟨e9, -, g9, q9⟩, -⟩
  · refine va_alen (D := Γ.1) (cl := vwCl) (ws := [(a, aR Γ N f)]) C.ex C.cd C.hk (fun k9 q9 hk9 => ?_) 0 4 rfl rfl rfl d (kk H locs ls h1 h2 h3 h4)
    have hz : k9 < 1 := (List.getElem?_eq_some_iff.mp hk9).1
    rw [show k9 = 0 by omega] at hk9
    cases hk9
    exact z9
  · have e0 := (Prod.mk.inj (Prod.mk.inj (Sum.inl.inj q9)).2).1
    have e0' : N = 0 := e0
    subst e9
    subst e0'
    exact va_tlen C.ex C.cd C.hx.2.2.2.2.2.2.2.2.1 h3 rfl d (kk H locs ls h1 h2 h3 h4)
theorem g_alenRR {q a N : Nat} {w : Bool} {f : Nat → Option Nat} (C : hC Γ l k own nm cc nL ret rm A) (d : decode cc pc = .ok (.arraylength, 1)) (hM : M a = some (w, aRR Γ N f)) (hq : pc + 1 = q) (kk : hG Γ k A Q M n z q L (.int (nI N) :: st)) : hG Γ k A Q M n z pc L (.ref a :: st) := by
  subst hq
  intro H locs ls h1 h2 h3 h4
  rcases h1 a _ hM with z9 | ⟨⟨e9, -, g9, q9⟩, -⟩
  · refine va_alen (D := Γ.1) (cl := vwCl) (ws := [(a, aRR Γ N f)]) C.ex C.cd C.hk (fun k9 q9 hk9 => ?_) 0 5 rfl rfl rfl d (kk H locs ls h1 h2 h3 h4)
    have hz : k9 < 1 := (List.getElem?_eq_some_iff.mp hk9).1
    rw [show k9 = 0 by omega] at hk9
    cases hk9
    exact z9
  · have e0 := (Prod.mk.inj (Prod.mk.inj (Sum.inl.inj q9)).2).1
    have e0' : N = 0 := e0
    subst e9
    subst e0'
    exact va_tlen C.ex C.cd C.hx.2.2.2.2.2.2.2.2.1 h3 rfl d (kk H locs ls h1 h2 h3 h4)
/-- an array of ints into an array of such -/
theorem g_aastR {q a N v K : Nat} {w : Bool} {f : Nat → Option Nat} {g9 : Nat → Int32} {i : Int32} (C : hC Γ l k own nm cc nL ret rm A) (j : Nat) (hi : i = nI j) (hj : j < N) (hN : N < 2 ^ 31) (d : decode cc pc = .ok (.aastore, 1)) (hM : M a = some (true, aR Γ N f)) (hv : M v = some (w, aI Γ K g9)) (hq : pc + 1 = q) (kk : hG Γ k A Q (hU M a (aR Γ N (va_up f j (some v)))) n z q L st) : hG Γ k A Q M n z pc L (.ref v :: .int i :: .ref a :: st) := by
  subst hq
  intro H locs ls h1 h2 h3 h4
  have hcl := h_cl hi hj hN
  have hn0 : ¬ i < 0 := fun q => h_in hi hj hN (Or.inl q)
  obtain ⟨kA9, comp, k1, k2, k3, -⟩ := aoa_of (C_aoaI C) (C.hk.2 4 _ rfl).2
  have ec : comp = Γ.2.1 0 := Option.some.inj (k3.symm.trans (nm_I C))
  subst ec
  have hcv : H[v]? = some (vp_cell (Γ.2.1 0) (K, .inl g9)) := h1.trn hv (fun g8 q9 => nomatch (Prod.mk.inj (Prod.mk.inj q9).2).2)
  obtain ⟨kK9, hkK⟩ := hFound k3
  refine W.aast C.ex C.cd (h1.tr hM) (fun q h => by cases h) (fun h => by cases h) k1 k2 rfl hkK ⟨hn0, by show _ < (arrV _ _ _).slots.size; rw [arrV_size, hcl]; exact hj⟩ hcv (fun q h => by cases h) hkK (asg_self _ _) rfl rfl d fun H1 e zz oq => ?_
  refine kk H1 _ ls (h1.put ?_ oq) (h2.put (h2 a _ hM)) (h3.put zz oq (h2 a _ hM)) h4
  show H1[a]? = some (vp_cell _ _)
  rw [e, vp_cell_q, vp_cell_q, arrV_store, hcl]
  congr 2
  funext q
  by_cases hq : q = j
  · subst hq
    simp [updV, va_up, va_rf]
  · simp [updV, va_up, hq]
theorem g_aastRN {q a N : Nat} {f : Nat → Option Nat} {i : Int32} (C : hC Γ l k own nm cc nL ret rm A) (j : Nat) (hi : i = nI j) (hj : j < N) (hN : N < 2 ^ 31) (d : decode cc pc = .ok (.aastore, 1)) (hM : M a = some (true, aR Γ N f)) (hq : pc + 1 = q) (kk : hG Γ k A Q (hU M a (aR Γ N (va_up f j none))) n z q L st) : hG Γ k A Q M n z pc L (.null :: .int i :: .ref a :: st) := by
  subst hq
  intro H locs ls h1 h2 h3 h4
  have hin := h_in hi hj hN
  have hcl := h_cl hi hj hN
  refine aoa_null (t := .int) C.ex C.cd (h1.tr hM) ((C.hk.2 4 _ rfl).1 N (fun j => va_rf (f j))) (fun h => by cases h) (by show ¬ (i < 0 ∨ (arrV _ _ _).slots.size ≤ _); rw [arrV_size]; exact hin) rfl rfl d fun H1 e zz oq => ?_
  refine kk H1 _ ls (h1.put ?_ oq) (h2.put (h2 a _ hM)) (h3.put zz oq (h2 a _ hM)) h4
  show H1[a]? = some (vp_cell _ _)
  rw [e, vp_cell_q, vp_cell_q, arrV_store, hcl]
  congr 2
  funext q
  by_cases hq : q = j
  · subst hq
    simp [updV, va_up, va_rf]
  · simp [updV, va_up, hq]
/-- a truth value into an array of such -/
theorem g_zast {q a N : Nat} {f : Nat → Int32} {i : Int32} {x : Int32} (C : hC Γ l k own nm cc nL ret rm A) (j : Nat) (hi : i = nI j) (hj : j < N) (hN : N < 2 ^ 31) (hx : narrow .boolean (.int x) = .int x) (d : decode cc pc = .ok (.bastore, 1)) (hM : M a = some (true, aZ Γ N f)) (hq : pc + 1 = q) (kk : hG Γ k A Q (hU M a (aZ Γ N (upd f j x))) n z q L st) : hG Γ k A Q M n z pc L (.int x :: .int i :: .ref a :: st) := by
  subst hq
  intro H locs ls h1 h2 h3 h4
  have hin := h_in hi hj hN
  have hcl := h_cl hi hj hN
  refine W.zast C.ex C.cd (h1.tr hM) ((C.hk.2 1 _ rfl).1 N (fun j => .int (f j))) (fun q => by cases q) (by show ¬ (i < 0 ∨ (arrV _ _ _).slots.size ≤ _); rw [arrV_size]; exact hin) rfl rfl d fun H1 e zz oq => ?_
  refine kk H1 _ ls (h1.put ?_ oq) (h2.put (h2 a _ hM)) (h3.put zz oq (h2 a _ hM)) h4
  show H1[a]? = some (vp_cell _ _)
  rw [e, vp_cell_i, vp_cell_i, arrV_store, hcl, hx]
  congr 2
  funext q
  by_cases hq : q = j
  · subst hq
    simp [updV, upd]
  · simp [updV, upd, hq]
theorem g_newR {q N index : Nat} {i : Int32} (C : hC Γ l k own nm cc nL ret rm A) (hclink : Cond.classLink own index "[I" ∈ hTbl) (hi : i = nI N) (hN : N < 1000000) (hcells : n + 1 ≤ rm.cells) (hslots : z + N ≤ rm.slots) (d : decode cc pc = .ok (.anewarray index, 3)) (hq : pc + 3 = q) (kk : ∀ b : Nat, M b = none → hG Γ k A Q (hU M b (aR Γ N (fun _ => none))) (n + 1) (z + N) q L (.ref b :: st)) : hG Γ k A Q M n z pc L (.int i :: st) := by
  subst hq
  intro H locs ls h1 h2 h3 h4
  have hcl : i.toNatClampNeg = N := by rw [hi]; exact nI_clamp (by omega)
  refine W.anewA (t := .int) C.ex C.cd C.ow (by rw [sI]; exact C.ts _ hclink) ((C_aoaI C).use _) rfl d rfl (by rw [hi]; exact nI_pos (by omega)) (by rw [hcl]; omega) (by rw [C.ro]; exact hcells) (by rw [C.ro, hcl]; exact hslots) fun cA kA9 comp f1 f2 f3 f4 => ?_
  have hcA : cA = Γ.2.1 4 := Option.some.inj (f1.symm.trans (C.hk.2 4 _ rfl).2)
  subst hcA
  rw [hcl]
  generalize hH1 : H.push ({ cls := Γ.2.1 4, slots := Array.replicate N .null, vm := .none } : Cell) = H1
  have z1 : H1.size = H.size + 1 := by rw [← hH1, Array.size_push]
  have e1 : H1[H.size]? = some (arrV (Γ.2.1 4) N (fun _ => .null)) := by rw [← hH1, Array.getElem?_push_size, ← arrV_new]
  have o1 : ∀ q : Nat, q < H.size → H1[q]? = H[q]? := fun q hq => by rw [← hH1, Array.getElem?_push, if_neg (Nat.ne_of_lt hq)]
  refine kk H.size (h1.fresh (Nat.le_refl _)) H1 locs ls (fun b x hx => ?_) (h2.put (C.ha _ h3.1)) ⟨Nat.le_trans h3.1 (by omega), fun x g1 g2 => (o1 x (Nat.lt_of_lt_of_le g1 h3.1)).trans (h3.2.1 x g1 g2), h3.2.2⟩ h4
  by_cases hb : b = H.size
  · subst hb
    rw [hU_s] at hx
    cases hx
    refine Or.inl ?_
    show H1[H.size]? = some (vp_cell _ _)
    rw [vp_cell_q]
    exact e1
  · rw [hU_n hb] at hx
    exact (h1 b x hx).imp (fun z => z.kept (o1 b (h1.lt hx))) (fun z => ⟨z.1, hP.ltk z.2 (o1 b (h1.lt hx))⟩)
/-- rows that were just made lie behind all that was there -/
def hUr (M : hM) (b N : Nat) (r : Nat → Nat) (o e : va_E) (N0 : Nat) : hM := fun q => if q = b then some (true, o) else if b < q ∧ q ≤ b + N0 then some (true, e) else M q
theorem g_mna {q index N K : Nat} {i j : Int32} {ty : FieldType} {t1 t2 : Nat} {z0 : (Nat → Int32) ⊕ (Nat → Int64) ⊕ (Nat → UInt32) ⊕ (Nat → UInt64) ⊕ (Nat → Option Nat)} (C : hC Γ l k own nm cc nL ret rm A) (hclink : Cond.classLink own index ("[" ++ (FieldType.array ty).toString) ∈ hTbl) (hover : hAOA ty (kS k)) (harr : (Cond.arrayClass ty).before (kA k) (kS k) = true)
    (hc1 : (kS k).vm.findClass ("[" ++ (FieldType.array ty).toString) = some (Γ.2.1 t1)) (hc2 : (kS k).vm.findClass (FieldType.array ty).toString = some (Γ.2.1 t2)) (hi : i = nI N) (hj : j = nI K) (hN : N < 1000) (hK : K < 1000) (hcb : componentBytes ty ≤ 8) (hdf : fits ty (defaultValue ty) = true) (hdd : (defaultValue ty).isDefault = true)
    (hz : ∀ c : ClassId, Jvm.Free.Multi.innerC c K (defaultValue ty) = vp_cell c (K, z0)) (hcells : n + (1 + N) ≤ rm.cells) (hslots : z + (N + N * K) ≤ rm.slots) (d : decode cc pc = .ok (.multianewarray index 2, 4)) (hq : pc + 4 = q)
    (kk : ∀ (b : Nat) (M1 : hM), M b = none → (∀ a, a < N → M (b + 1 + a) = none) → M1 b = some (true, .inl (Γ.2.1 t1, N, .inr (.inr (.inr (.inr (fun a => if a < N then some (b + 1 + a) else none)))))) → (∀ a, a < N → M1 (b + 1 + a) = some (true, .inl (Γ.2.1 t2, K, z0))) → (∀ a x, M a = some x → M1 a = some x) → hG Γ k A Q M1 (n + 1 + N) (z + N + N * K) q L (.ref b :: st)) : hG Γ k A Q M n z pc L (.int j :: .int i :: st) := by
  subst hq
  intro H locs ls h1 h2 h3 h4 T hT Xs
  have c1 : i.toNatClampNeg = N := by rw [hi]; exact nI_clamp (by omega)
  have c2 : j.toNatClampNeg = K := by rw [hj]; exact nI_clamp (by omega)
  have hmul : K * componentBytes ty ≤ 1000 * 8 := Nat.mul_le_mul (by omega) hcb
  obtain ⟨vm₁, cA, comp, -, fA, fC, hO, -, X', step⟩ := Xs.multianewarray2F C.ex C.ow (C.ts _ hclink) (hover.use _) harr (g := F0 (kM k) pc ls (.int j :: .int i :: st)) rfl (by rw [C.cd]; exact d) rfl (by rw [hi]; exact nI_pos (by omega)) (by rw [hj]; exact nI_pos (by omega)) (by rw [c1]; omega) (by rw [c2]; omega) (by rw [c2]; omega) hdf hdd (by rw [c1, C.ro]; exact hcells) (by rw [c1, c2, C.ro]; exact hslots)
  rw [c1, c2] at X' step
  have eA : cA = Γ.2.1 t1 := Option.some.inj (fA.symm.trans hc1)
  have eC : comp = Γ.2.1 t2 := Option.some.inj (fC.symm.trans hc2)
  subst eA; subst eC
  generalize hF : Jvm.Free.Multi.fill (T.setVm vm₁) (Γ.2.1 t1) (Γ.2.1 t2) N K (defaultValue ty) N = F at X' step
  have hTh : (T.setVm vm₁).heap = H := hT
  obtain ⟨f1, f2, -, -⟩ := Jvm.Free.Multi.fill_facts (T.setVm vm₁) (Γ.2.1 t1) (Γ.2.1 t2) N K (defaultValue ty) N
  rw [hF, hTh] at f1 f2
  have hold : ∀ x : Nat, x < H.size → F.heap[x]? = H[x]? := fun x hx => by
    have := Jvm.Free.Multi.fill_old (T.setVm vm₁) (Γ.2.1 t1) (Γ.2.1 t2) N K (defaultValue ty) (a := x) (by rw [hTh]; exact hx) N
    rw [hF, hTh] at this
    exact this
  have hrow : ∀ a : Nat, a < N → F.heap[H.size + 1 + a]? = some (vp_cell (Γ.2.1 t2) (K, z0)) := fun a ha => by
    have := Jvm.Free.Multi.fill_inner (T.setVm vm₁) (Γ.2.1 t1) (Γ.2.1 t2) N K (defaultValue ty) N a ha
    rw [hF, hTh, hz] at this
    exact this
  have hout : Jvm.Free.Multi.outerC (Γ.2.1 t1) N H.size N = vp_cell (Γ.2.1 t1) (N, .inr (.inr (.inr (.inr (fun a => if a < N then some (H.size + 1 + a) else none))))) := by
    rw [vp_cell_q]
    exact vr_outer (Γ.2.1 t1) N H.size N
  rw [hout] at f2
  have hfr : ∀ a, H.size ≤ a → M a = none := fun a ha => h1.fresh ha
  obtain ⟨M1, hM1⟩ : ∃ M1 : hM, M1 = fun a => if a = H.size then some (true, .inl (Γ.2.1 t1, N, .inr (.inr (.inr (.inr (fun a => if a < N then some (H.size + 1 + a) else none)))))) else if H.size < a ∧ a < H.size + 1 + N then some (true, .inl (Γ.2.1 t2, K, z0)) else M a := ⟨_, rfl⟩
  have m0 : M1 H.size = some (true, .inl (Γ.2.1 t1, N, .inr (.inr (.inr (.inr (fun a => if a < N then some (H.size + 1 + a) else none)))))) := by rw [hM1]; simp
  have mr : ∀ a, a < N → M1 (H.size + 1 + a) = some (true, .inl (Γ.2.1 t2, K, z0)) := fun a ha => by
    rw [hM1]
    show (if _ then _ else _) = _
    rw [if_neg (by omega), if_pos (by omega)]
  have mo : ∀ a x, M a = some x → M1 a = some x := fun a x hx => by
    have hl := h1.lt hx
    rw [hM1]
    show (if _ then _ else _) = _
    rw [if_neg (by omega), if_neg (by omega)]
    exact hx
  have hsz : F.heap.size = H.size + 1 + N := f1
  have K1 := kk H.size M1 (hfr _ (Nat.le_refl _)) (fun a ha => hfr _ (by omega)) m0 mr mo F.heap locs ls (fun b x hx => ?_) (fun b x hx => ?_) ⟨Nat.le_trans h3.1 (by omega), fun x g1 g2 => (hold x (Nat.lt_of_lt_of_le g1 h3.1)).trans (h3.2.1 x g1 g2), h3.2.2⟩ h4
  · obtain ⟨t, a1, b1⟩ := K1 F rfl X'
    rw [← hT] at a1
    exact ⟨t, step t a1, b1⟩
  · by_cases hb : b = H.size
    · subst hb
      rw [m0] at hx
      cases hx
      exact Or.inl f2
    · by_cases hb2 : H.size < b ∧ b < H.size + 1 + N
      · have e := mr (b - (H.size + 1)) (by omega)
        rw [show H.size + 1 + (b - (H.size + 1)) = b by omega] at e
        rw [e] at hx
        cases hx
        have e2 := hrow (b - (H.size + 1)) (by omega)
        rw [show H.size + 1 + (b - (H.size + 1)) = b by omega] at e2
        exact Or.inl e2
      · rw [hM1] at hx
        simp only [if_neg hb, if_neg hb2] at hx
        exact (h1 b x hx).imp (fun z => z.kept (hold b (h1.lt hx))) (fun z => ⟨z.1, hP.ltk z.2 (hold b (h1.lt hx))⟩)
  · by_cases hb : H.size ≤ b
    · exact C.ha _ (Nat.le_trans h3.1 hb)
    · rw [hM1] at hx
      simp only [if_neg (show ¬ b = H.size by omega), if_neg (show ¬ (H.size < b ∧ b < H.size + 1 + N) by omega)] at hx
      exact h2 b x hx
theorem mna_I (c : ClassId) (K : Nat) : Jvm.Free.Multi.innerC c K (defaultValue .int) = vp_cell c (K, .inl (fun _ => 0)) := by
  rw [vp_cell_i]
  show ({ cls := c, slots := Array.replicate K (.int 0), vm := .none } : Cell) = _
  rw [arrV_new]
theorem mna_Z (c : ClassId) (K : Nat) : Jvm.Free.Multi.innerC c K (defaultValue .boolean) = vp_cell c (K, .inl (fun _ => 0)) := by
  rw [vp_cell_i]
  show ({ cls := c, slots := Array.replicate K (.int 0), vm := .none } : Cell) = _
  rw [arrV_new]
theorem mna_R (c : ClassId) (K : Nat) : Jvm.Free.Multi.innerC c K (defaultValue (.array .int)) = vp_cell c (K, .inr (.inr (.inr (.inr (fun _ => none))))) := by
  rw [vp_cell_q]
  show ({ cls := c, slots := Array.replicate K .null, vm := .none } : Cell) = _
  rw [arrV_new]
  rfl
theorem g_ldc {q i : Nat} {v : Int32} (C : hC Γ l k own nm cc nL ret rm A) (d : decode cc pc = .ok (.ldc i, 2)) (hw : Cond.constant own i v ∈ hTbl) (hq : pc + 2 = q) (kk : hG Γ k A Q M n z q L (.int v :: st)) : hG Γ k A Q M n z pc L st := by
  subst hq
  intro H locs ls h1 h2 h3 h4
  exact lv_ldc C.ex C.cd C.ow (C.ts _ hw) d (kk H locs ls h1 h2 h3 h4)
/-- the script: it lies in the heap of the start and is never written -/
theorem g_xald {b N q : Nat} {xs : Nat → Int32} {i : Int32} (hΓ : Γ.2.2.2 = (b, N, xs)) (C : hC Γ l k own nm cc nL ret rm A) (j : Nat) (hi : i = nI j) (hj : j < N) (hN : N < 2 ^ 31) (d : decode cc pc = .ok (.iaload, 1)) (hq : pc + 1 = q) (kk : hG Γ k A Q M n z q L (.int (xs j) :: st)) : hG Γ k A Q M n z pc L (.int i :: .ref b :: st) := by
  subst hq
  intro H locs ls h1 h2 h3 h4
  have hT := C.hx.2.2.2.2.2.2.2.2.2
  unfold hScr at hT
  rw [hΓ] at hT
  have e : i.toNatClampNeg = j := by rw [hi, nI_clamp (by omega)]
  exact va_ti C.ex C.cd hT h3 (h_in hi hj hN) (by rw [e]) d (kk H locs ls h1 h2 h3 h4)
theorem g_xlen {b N q : Nat} {xs : Nat → Int32} (hΓ : Γ.2.2.2 = (b, N, xs)) (C : hC Γ l k own nm cc nL ret rm A) (d : decode cc pc = .ok (.arraylength, 1)) (hq : pc + 1 = q) (kk : hG Γ k A Q M n z q L (.int (nI N) :: st)) : hG Γ k A Q M n z pc L (.ref b :: st) := by
  subst hq
  intro H locs ls h1 h2 h3 h4
  have hT := C.hx.2.2.2.2.2.2.2.2.2
  unfold hScr at hT
  rw [hΓ] at hT
  exact va_tlen C.ex C.cd hT h3 rfl d (kk H locs ls h1 h2 h3 h4)
end hRows2b
