/-! ===== calls that catch ===== -/
def hMetW (Γ : hGam) (l : Launch) (y : MethodName) (cc : ByteArray) (maxL : Nat) (ret : Option FieldType) (hh : List (Nat × Nat × Nat × Nat)) (rm : Room) (as : List Value) (M : hM) (post : Option Value → hM → Prop) : Prop :=
  ∀ sz : Nat, Met l y (.codeWith y cc maxL ret hh :: hTbl) rm (va_Pc as (hBx Γ M sz)) (hQ Γ M sz post) rm.cells rm.slots (hA M sz)
theorem hMetW_of {Γ : hGam} {l : Launch} {own nm desc : String} {cc : ByteArray} {maxL : Nat} {ret : Option FieldType} {hh : List (Nat × Nat × Nat × Nat)} {rm : Room} {as : List Value} {M : hM} {post : Option Value → hM → Prop} (hy : plainName own = true) (hlen : as.length ≤ maxL) (hc : hCat as)
    (body : ∀ k : hCtx, hC Γ l k own nm cc maxL ret rm (hA M (kS k).heap.size) → (kC k).exceptionTable.toList = tableOf hh → hG Γ k (hA M (kS k).heap.size) (hEnd Γ k M post rm.cells rm.slots) M 0 0 0 (as.map some ++ List.replicate (maxL - as.length) none) []) : hMetW Γ l ⟨own, nm, desc⟩ cc maxL ret hh rm as M post := by
  intro sz
  refine va_MetW (cc := cc) (maxL := maxL) (ret := ret) hy rfl ?_
  intro p e s m args below meth c s₁ B hml hv
  obtain ⟨rfl, rfl, hP1, hK1, hX1⟩ := hv
  have hts := atoms_spec B.pre
  have K := body (p, l, e, rm, s, m, as.toArray, below, meth, c) ⟨B.exec, B.bytes, hml, findClass_of_methodNamed B.named, fun w hw => hts w (List.mem_cons_of_mem _ hw), hK1, hX1, fun q h => Or.inr h, B.notSynchronized, rfl, rfl, (name_of_methodNamed B.named B.method).1, B.returns⟩ (vx_table (x := ⟨own, nm, desc⟩) B (hts _ List.mem_cons_self))
  rw [lg_entry_eq]
  exact K s.heap [] _ hP1 (fun a x h => Or.inl ⟨x, h⟩) va_S.rf (h_entry hlen hc)
def hYW (y : MethodName) (bytes : ByteArray) (maxL : Nat) (rt : Option FieldType) (hh : List (Nat × Nat × Nat × Nat)) (na : Nat) : Prop :=
  Cond.codeWith y bytes maxL rt hh ∈ hTbl ∧ Cond.initialized y.cls ∈ hTbl ∧ (y.cls ≠ "java/lang/invoke/MethodHandle" ∧ y.cls ≠ "java/lang/invoke/VarHandle") ∧ (parseMethodDescriptor y.desc).map (fun d => d.parameters.length) = some na ∧ Cond.static y ∈ hTbl
section hRows9
variable {Γ : hGam} {l : Launch} {k : hCtx} {own nm : String} {cc : ByteArray} {nL : Nat} {ret : Option FieldType} {rm : Room} {A : Nat → Prop} {Q : State → Prop} {M M0 : hM} {n z pc mc ms : Nat} {L : List (Option Value)} {st : List Value}
theorem gx_callSW {y : MethodName} {bytes : ByteArray} {maxL index : Nat} {rt : Option FieldType} {hh : List (Nat × Nat × Nat × Nat)} {rm' : Room} {post : Option Value → hM → Prop} {q : Nat} {As stk : List Value} (C : hC Γ l k own nm cc nL ret rm A) (Y : hYW y bytes maxL rt hh As.length) (hm : hMetW Γ l y bytes maxL rt hh rm' As M post) (hl : Cond.methodLink own index y ∈ hTbl) (hR : rm'.frames + 1 ≤ rm.frames ∧ 8 + (maxL + 11) + rm'.locals ≤ rm.locals) (hsum : (st.map fun v => v.category).sum ≤ 8) (hsz : L.length = nL) (hcs : n + rm'.cells ≤ rm.cells ∧ z + rm'.slots ≤ rm.slots) (d : decode cc pc = .ok (.invokestatic index, 3)) (hstk : stk = As.reverse ++ st) (hq : pc + 3 = q)
    (kk : ∀ (r : Option Value) (M1 : hM), post r M1 → hG Γ k A Q M1 (n + rm'.cells) (z + rm'.slots) q L (r.toList ++ st)) : hG Γ k A Q M n z pc L stk := by
  subst hq
  intro H locs ls h1 h2 h3 h4
  rw [← C.la] at hm
  have key : ∀ w ∈ va_wsS own index y (Cond.codeWith y bytes maxL rt hh :: hTbl), w ∈ hTbl := fun w hw => by
    unfold va_wsS at hw
    rcases List.mem_append.mp hw with hw | hw
    · rcases List.mem_cons.mp hw with rfl | hw
      · exact hl
      · rcases List.mem_cons.mp hw with rfl | hw
        · exact Y.2.2.2.2
        · rcases List.mem_cons.mp hw with rfl | hw
          · exact Y.2.1
          · exact absurd hw List.not_mem_nil
    · rcases List.mem_cons.mp hw with rfl | hw
      · exact Y.1
      · exact hw
  have cw : vx_CSW (kR k) (kS k) (kA k) own index y bytes maxL rt hh (Cond.codeWith y bytes maxL rt hh :: hTbl) rm' rm'.cells rm'.slots As.length :=
    vx_cwSW As.length C.ts (fun w hw => ⟨key w hw, good_of_word (hTbl_good w (key w hw))⟩) rfl rfl rfl ⟨Y.2.2.1.1, Y.2.2.1.2, Y.2.2.2.1⟩ (by rw [C.ro]; exact hR)
  exact h_after C (vx_runSW (As := As) (rest := st) ⟨C.ex, C.cd, C.ml, C.ow, C.ts⟩ (hm H.size) cw ⟨hBx_blind, fun U hU hW => ⟨rfl, hBx_at C h1 h2 h3 U hU hW⟩⟩ rfl rfl (by rw [← hsz]; exact h4.1) hstk (h_sum hsum) d (by rw [C.ro]; exact hcs)) h2 h3 h4 kk
theorem g_catch {E name : String} {hh : List (Nat × Nat × Nat × Nat)} (C : hC Γ l k own nm cc nL ret rm A) (T : (kC k).exceptionTable.toList = tableOf hh) (pre : List (Nat × Nat × Nat × Nat)) (x : Nat × Nat × Nat × Nat) (suf : List (Nat × Nat × Nat × Nat)) (hsplit : hh = pre ++ x :: suf)
    (hpass : ∀ z ∈ pre, z.2.2.2 ≠ 0 ∧ ∃ nm : String, Cond.classLink own z.2.2.2 nm ∈ hTbl ∧ (E, nm) ∈ [("java/lang/IllegalArgumentException", "java/lang/IndexOutOfBoundsException"), ("java/lang/IllegalStateException", "java/lang/IndexOutOfBoundsException"), ("java/lang/IllegalStateException", "java/lang/IllegalArgumentException"), ("java/lang/IndexOutOfBoundsException", "java/lang/IllegalArgumentException")])
    (hx : (decide (x.1 ≤ pc) && decide (pc < x.2.1)) = true) (h0 : x.2.2.2 ≠ 0) (hlink : Cond.classLink own x.2.2.2 name ∈ hTbl) (hcast : Cond.castable E name ∈ hNest) (kk : ∀ q : Nat, hG Γ k A Q M n z x.2.2.1 L [.ref q]) : hGX Γ k A Q M n z pc L st E := by
  intro H locs ls q ce h1 h2 h3 h4 hce hcv hcl
  refine vx_catch C.ow ((tableOf pre)) ⟨x.1, x.2.1, x.2.2.1, x.2.2.2⟩ (tableOf suf) (by rw [T, hsplit]; simp [tableOf]) (fun z hz => ?_) hx h0 (C.ts _ hlink) (va_Nw.use rfl (C.hx.2.2.2.2.1 _ hcast)) hce hcv hcl (kk q H locs ls h1 h2 h3 h4)
  unfold tableOf at hz
  obtain ⟨w, hw, rfl⟩ := List.mem_map.mp hz
  obtain ⟨a, nm, b, c⟩ := hpass w hw
  exact Or.inr ⟨a, nm, C.ts _ b, C.hx.2.2.2.2.2.2.2.1 _ c⟩
end hRows9
/-! what a refused call leaves -/
theorem ltP.kp {Γ : hGam} {M M1 : hM} {x : Nat} {S : hS} (h : ltP Γ M x S) {P : Nat → Bool} (hk : hKp P M M1) (h0 : P 0 = true) (h1 : P 1 = true) (h2 : P 2 = true) (h3 : P 3 = true) (h4 : P 4 = true) (h5 : P 5 = true) (h12 : P 12 = true) : ltP Γ M1 x S := by
  obtain ⟨hl9, ol, rk, tr, edh, edo, hb, ob, hk9, hk2, V, V2, g0, pL, pT, pH, pO, nHO, nED, pR, pR2, nHK, hRV⟩ := h
  exact ⟨hl9, ol, rk, tr, edh, edo, hb, ob, hk9, hk2, V, V2, g0, hk _ _ _ pL h5, hk _ _ _ pT h12, pH.kp hk h0 h1 h12, pO.kp hk h0 h3 h12, nHO, nED, pR.kp hk h2 h4 h12, pR2.kp hk h2 h4 h12, nHK, hRV⟩
def noOut : Nat → Bool := fun n => !(n == 11)
def noLw : Nat → Bool := fun n => decide (6 ≤ n) && (!(n == 12) && !(n == 11))
theorem noLw_o : ∀ n, noLw n = true → noOut n = true := fun n h => by
  simp only [noLw, noOut, Bool.and_eq_true, decide_eq_true_eq, Bool.not_eq_true', beq_eq_false_iff_ne] at h ⊢
  omega
theorem noLw_c : ∀ n, noLw n = true → noCls n = true := fun n h => by
  simp only [noLw, noCls, Bool.and_eq_true, decide_eq_true_eq, Bool.not_eq_true', beq_eq_false_iff_ne] at h ⊢
  omega
theorem sHerb_ne {S : hS} {e l : Int32} (h : (sHerb S e l).1 ≠ 0) : (sHerb S e l).2.2 = S := by
  revert h
  unfold sHerb
  repeat (first | (intro _; rfl) | (intro h; exact absurd rfl h) | split)
theorem sHang_ne {S : hS} {p q k w : Int32} (h : (sHang S p q k w).1 ≠ 0) : (sHang S p q k w).2.2 = S := by
  revert h
  unfold sHang
  repeat (first | (intro _; rfl) | (intro h; exact absurd rfl h) | split)
theorem sTake_ne {S : hS} {p q : Int32} (h : (sTake S p q).1 ≠ 0) : (sTake S p q).2.2 = S := by
  revert h
  unfold sTake
  repeat (first | (intro _; rfl) | (intro h; exact absurd rfl h) | split)
theorem sMove_ne {S : hS} {p q p2 q2 : Int32} (h : (sMove S p q p2 q2).1 ≠ 0) : (sMove S p q p2 q2).2.2 = S := by
  revert h
  unfold sMove
  repeat (first | (intro _; rfl) | (intro h; exact absurd rfl h) | split)
theorem sTurn_ne {S : hS} {p : Int32} (h : (sTurn S p).1 ≠ 0) : (sTurn S p).2.2 = S := by
  revert h
  unfold sTurn
  repeat (first | (intro _; rfl) | (intro h; exact absurd rfl h) | split)
theorem sSetW_ne {S : hS} {p : Int32} (h : (sSetW S p).1 ≠ 0) : (sSetW S p).2.2 = S := by
  revert h
  unfold sSetW
  repeat (first | (intro _; rfl) | (intro h; exact absurd rfl h) | split)
theorem sOrd_ne {S : hS} {k m w : Int32} (h : (sOrd S k m w).1 ≠ 0) : (sOrd S k m w).2.2 = S := by
  revert h
  unfold sOrd
  repeat (first | (intro _; rfl) | (intro h; exact absurd rfl h) | split)
theorem sPass_ne {S : hS} {d dmp : Int32} (h : (sPass S d dmp).1 ≠ 0) : (sPass S d dmp).2.2 = S := by
  revert h
  unfold sPass
  repeat (first | (intro _; rfl) | (intro h; exact absurd rfl h) | split)
