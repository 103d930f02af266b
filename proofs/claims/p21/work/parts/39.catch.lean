/-! ===== calls that catch ===== -/
def hMetW (Γ : hGam) (l : Launch) (y : MethodName) (cc : ByteArray) (maxL : Nat) (ret : Option FieldType) (hh : List (Nat × Nat × Nat × Nat)) (rm : Room) (as : List Value) (M : hM) (post : Option Value → hM → Prop) : Prop :=
  ∀ sz : Nat, Met l y (.codeWith y cc maxL ret hh :: hTbl) rm (va_Pc as (hBx Γ M sz)) (hQ Γ M sz post) rm.cells rm.slots (hA M sz)
theorem hMetW_of {Γ : hGam} {l : Launch} {own nm desc : String} {cc : ByteArray} {maxL : Nat} {ret : Option FieldType} {hh : List (Nat × Nat × Nat × Nat)} {rm : Room} {as : List Value} {M : hM} {post : Option Value → hM → Prop} (hy : plainName own = true) (hlen : as.length ≤ maxL) (hc : hCat as)
    (body : ∀ k : hCtx, hC Γ l k own nm cc maxL ret rm (hA M (kS k).heap.size) → (kC k).exceptionTable.toList = tableOf hh → hG Γ k (hA M (kS k).heap.size) (hEnd Γ k M post rm.cells rm.slots) M 0 0 0 (as.map some ++ List.replicate (maxL - as.length) none) []) : hMetW Γ l ⟨own, nm, desc⟩ cc maxL ret hh rm as M post := by
  intro sz
  refine va_MetW (cc := cc) (maxL := maxL) (ret := ret) hy rfl ?_
  intro p e s m args below meth c s₁ B hml hv
  obtain ⟨rfl, rfl, hP1, hK1, hX1⟩ := hv
  have hts := atoms_spec B.pre
  have K := body (p, l, e, rm, s, m, as.toArray, below, meth, c) ⟨B.exec, B.bytes, hml, findClass_of_methodNamed B.named, fun w hw => hts w (List.mem_cons_of_mem _ hw), hK1, hX1, fun q h => Or.inr h, B.notSynchronized, rfl, rfl, (name_of_methodNamed B.named B.method).1, B.returns⟩ (vx_table (x := ⟨own, nm, desc⟩) B (hts _ List.mem_cons_self))
  rw [lg_entry_eq]
  exact K s.heap [] _ hP1 (fun a x h => Or.inl ⟨x, h⟩) va_S.rf (h_entry hlen hc)
def hYW (y : MethodName) (bytes : ByteArray) (maxL : Nat) (rt : Option FieldType) (hh : List (Nat × Nat × Nat × Nat)) (na : Nat) : Prop :=
  Cond.codeWith y bytes maxL rt hh ∈ hTbl ∧ Cond.initialized y.cls ∈ hTbl ∧ (y.cls ≠ "java/lang/invoke/MethodHandle" ∧ y.cls ≠ "java/lang/invoke/VarHandle") ∧ (parseMethodDescriptor y.desc).map (fun d => d.parameters.length) = some na ∧ Cond.static y ∈ hTbl
section hRows9
variable {Γ : hGam} {l : Launch} {k : hCtx} {own nm : String} {cc : ByteArray} {nL : Nat} {ret : Option FieldType} {rm : Room} {A : Nat → Prop} {Q : State → Prop} {M M0 : hM} {n z pc mc ms : Nat} {L : List (Option Value)} {st : List Value}
theorem gx_callSW {y : MethodName} {bytes : ByteArray} {maxL index : Nat} {rt : Option FieldType} {hh : List (Nat × Nat × Nat × Nat)} {rm' : Room} {post : Option Value → hM → Prop} {q : Nat} {As stk : List Value} (C : hC Γ l k own nm cc nL ret rm A) (Y : hYW y bytes maxL rt hh As.length) (hm : hMetW Γ l y bytes maxL rt hh rm' As M post) (hl : Cond.methodLink own index y ∈ hTbl) (hR : rm'.frames + 1 ≤ rm.frames ∧ 8 + (maxL + 11) + rm'.locals ≤ rm.locals) (hsum : (st.map fun v => v.category).sum ≤ 8) (hsz : L.length = nL) (hcs : n + rm'.cells ≤ rm.cells ∧ z + rm'.slots ≤ rm.slots) (d : decode cc pc = .ok (.invokestatic index, 3)) (hstk : stk = As.reverse ++ st) (hq : pc + 3 = q)
    (kk : ∀ (r : Option Value) (M1 : hM), post r M1 → hG Γ k A Q M1 (n + rm'.cells) (z + rm'.slots) q L (r.toList ++ st)) : hG Γ k A Q M n z pc L stk := by
  subst hq
  intro H locs ls h1 h2 h3 h4
  rw [← C.la] at hm
  have key : ∀ w ∈ va_wsS own index y (Cond.codeWith y bytes maxL rt hh :: hTbl), w ∈ hTbl := fun w hw => by
    unfold va_wsS at hw
    rcases List.mem_append.mp hw with hw | hw
    · rcases List.mem_cons.mp hw with rfl | hw
      · exact hl
      · rcases List.mem_cons.mp hw with rfl | hw
        · exact Y.2.2.2.2
        · rcases List.mem_cons.mp hw with rfl | hw
          · exact Y.2.1
          · exact absurd hw List.not_mem_nil
    · rcases List.mem_cons.mp hw with rfl | hw
      · exact Y.1
      · exact hw
  have cw : vx_CSW (kR k) (kS k) (kA k) own index y bytes maxL rt hh (Cond.codeWith y bytes maxL rt hh :: hTbl) rm' rm'.cells rm'.slots As.length :=
    vx_cwSW As.length C.ts (fun w hw => ⟨key w hw, good_of_word (hTbl_good w (key w hw))⟩) rfl rfl rfl ⟨Y.2.2.1.1, Y.2.2.1.2, Y.2.2.2.1⟩ (by rw [C.ro]; exact hR)
  exact h_after C (vx_runSW (As := As) (rest := st) ⟨C.ex, C.cd, C.ml, C.ow, C.ts⟩ (hm H.size) cw ⟨hBx_blind, fun U hU hW => ⟨rfl, hBx_at C h1 h2 h3 U hU hW⟩⟩ rfl rfl (by rw [← hsz]; exact h4.1) hstk (h_sum hsum) d (by rw [C.ro]; exact hcs)) h2 h3 h4 kk
theorem g_catch {E name : String} {hh : List (Nat × Nat × Nat × Nat)} (C : hC Γ l k own nm cc nL ret rm A) (T : (kC k).exceptionTable.toList = tableOf hh) (pre : List (Nat × Nat × Nat × Nat)) (x : Nat × Nat × Nat × Nat) (suf : List (Nat × Nat × Nat × Nat)) (hsplit : hh = pre ++ x :: suf)
    (hpass : ∀ z ∈ pre, (decide (z.1 ≤ pc) && decide (pc < z.2.1)) = false)
    (hx : (decide (x.1 ≤ pc) && decide (pc < x.2.1)) = true) (h0 : x.2.2.2 ≠ 0) (hlink : Cond.classLink own x.2.2.2 name ∈ hTbl) (hcast : Cond.castable E name ∈ hNest) (kk : ∀ q : Nat, hG Γ k A Q M n z x.2.2.1 L [.ref q]) : hGX Γ k A Q M n z pc L st E := by
  intro H locs ls q ce h1 h2 h3 h4 hce hcv hcl
  refine vx_catch C.ow ((tableOf pre)) ⟨x.1, x.2.1, x.2.2.1, x.2.2.2⟩ (tableOf suf) (by rw [T, hsplit]; simp [tableOf]) (fun z hz => ?_) hx h0 (C.ts _ hlink) (va_Nw.use rfl (C.hx.2.2.2.2.1 _ hcast)) hce hcv hcl (kk q H locs ls h1 h2 h3 h4)
  unfold tableOf at hz
  obtain ⟨w, hw, rfl⟩ := List.mem_map.mp hz
  exact Or.inl (hpass w hw)
end hRows9
/-- below: some number below N -/
theorem blw {v : Int32} {N : Nat} (h0 : 0 < N) (hN : N < 1000) : ∃ j, j < N ∧ (v &&& 2147483647) - (v &&& 2147483647) / nI N * nI N = nI j := by
  obtain ⟨j, hj, e⟩ := pk_andE v (m := 2147483647) 31 (by decide)
  rw [e]
  exact ⟨j % N, Nat.mod_lt _ h0, pk_rem hj h0 (by omega)⟩
set_option maxRecDepth 100000 in
set_option maxHeartbeats 4000000 in
theorem c_L_below (Γ : hGam) (l : Launch) {M : hM} {v : Int32} {N : Nat} (h0 : 0 < N) (hN : N < 1000) : hMet Γ l yL_below cL_below 2 (some .int) rm_L_below [.int v, .int (nI N)] M (hpI (fun a M1 => (∃ j, j < N ∧ a = nI j) ∧ M1 = M)) := by
  refine hMet_of (by decide +kernel) (Nat.le_of_ble_eq_true rfl) (hCat_cons rfl (hCat_cons rfl hCat_nil)) (fun k9 C => ?_)
  show hG _ _ _ _ _ _ _ _ [some (.int v), some (.int (nI N))] _
  refine g_iload_n (q := 1) C dL_below_0 rfl rfl ?_
  refine g_ldc (q := 3) C dL_below_1 qw_503 rfl ?_
  refine g_iand (q := 4) C dL_below_3 rfl ?_
  refine g_iload_n (q := 5) C dL_below_4 rfl rfl ?_
  refine g_irem (q := 6) C dL_below_5 (nI_ne0 h0 (by omega)) rfl ?_
  exact g_iret C dL_below_6 (⟨blw h0 hN, rfl⟩) (Nat.zero_le _) (Nat.zero_le _)
set_option maxRecDepth 100000 in
set_option maxHeartbeats 4000000 in
theorem c_L_cell (Γ : hGam) (l : Launch) {M : hM} {b N j : Nat} {xs : Nat → Int32} (hΓ : Γ.2.2.2 = (b, N, xs)) (hN : N ≤ 260) (hj : j < 2 ^ 31) : hMet Γ l yL_cell cL_cell 2 (some .int) rm_L_cell [.ref b, .int (nI j)] M (hpI (fun a M1 => M1 = M)) := by
  refine hMet_of (by decide +kernel) (Nat.le_of_ble_eq_true rfl) (hCat_cons rfl (hCat_cons rfl hCat_nil)) (fun k9 C => ?_)
  show hG _ _ _ _ _ _ _ _ [some (.ref b), some (.int (nI j))] _
  refine g_iload_n (q := 1) C dL_cell_0 rfl rfl ?_
  refine g_aload_n (q := 2) C dL_cell_1 rfl (by first | exact hRef_r _ | exact hRef_o _ | exact hRef_n) rfl ?_
  refine g_xlen (q := 3) hΓ C dL_cell_2 rfl ?_
  refine g_icmp_ge (t := 12) (q := 6) C dL_cell_3 (by decide) rfl (fun c_3 => ?_) (fun c_3 => ?_)
  · skip
    refine g_ldc (q := 14) C dL_cell_12 qw_507 rfl ?_
    refine g_iload_n (q := 15) C dL_cell_14 rfl rfl ?_
    refine g_iconst (q := 16) (3) C dL_cell_15 (by decide) rfl ?_
    refine g_iadd (q := 17) C dL_cell_16 rfl ?_
    refine g_imul (q := 18) C dL_cell_17 rfl ?_
    exact g_iret C dL_cell_18 (rfl) (Nat.zero_le _) (Nat.zero_le _)
  · skip
    have hlt : j < N := by
      rcases Nat.lt_or_ge j N with z | z
      · exact z
      · exact absurd (nI_le z (by omega)) c_3
    refine g_aload_n (q := 7) C dL_cell_6 rfl (by first | exact hRef_r _ | exact hRef_o _ | exact hRef_n) rfl ?_
    refine g_iload_n (q := 8) C dL_cell_7 rfl rfl ?_
    refine g_xald (q := 9) hΓ C j rfl hlt (by omega) dL_cell_8 rfl ?_
    refine g_goto (t := 18) C dL_cell_9 (by decide) ?_
    exact g_iret C dL_cell_18 (rfl) (Nat.zero_le _) (Nat.zero_le _)
