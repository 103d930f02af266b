/-! ===== throws, and calls of methods that may throw ===== -/
abbrev hNms : List String := ["java/lang/RuntimeException", "java/lang/Exception"]
def hThr (own : String) (ik ic : Nat) (cls : String) : Prop := Bundle.fit cls = true ∧ (∀ n ∈ hNms, Bundle.fit n = true) ∧ Cond.classLink own ik cls ∈ hTbl ∧ Cond.initialized cls ∈ hTbl ∧ (∀ w ∈ (vx_atS own ic cls hNms).filter goodWord, w ∈ hTbl) ∧ (∀ w ∈ (vx_atS own ic cls hNms).filter (fun w => !goodWord w), w ∈ hNest) ∧ (∀ w ∈ Cond.classLink own ik cls :: Cond.initialized cls :: vx_atS own ic cls hNms, vx_ot w = true)
theorem hThr_IAE : hThr RX4 40 44 "java/lang/IllegalArgumentException" := ⟨by decide +kernel, by decide +kernel, qw_316, qw_20, by decide +kernel, by decide +kernel, by decide +kernel⟩
theorem hThr_ISE : hThr RX4 53 57 "java/lang/IllegalStateException" := ⟨by decide +kernel, by decide +kernel, qw_218, qw_21, by decide +kernel, by decide +kernel, by decide +kernel⟩
theorem hThr_IOB : hThr RX4 71 75 "java/lang/IndexOutOfBoundsException" := ⟨by decide +kernel, by decide +kernel, qw_146, qw_27, by decide +kernel, by decide +kernel, by decide +kernel⟩
section hRows4
variable {Γ : hGam} {l : Launch} {k : hCtx} {own nm : String} {cc : ByteArray} {nL : Nat} {ret : Option FieldType} {rm : Room} {A : Nat → Prop} {Q : State → Prop} {M M0 : hM} {n z pc mc ms : Nat} {L : List (Option Value)} {st : List Value} {px : String → Prop}
theorem g_throwS {post : Option Value → hM → Prop} {ik ic is : Nat} {cls text : String} (C : hC Γ l k own nm cc nL ret rm (hA M0 (kS k).heap.size)) (hl : l.stackTraces = false) (hno : ∀ x ∈ (kC k).exceptionTable.toList, False) (Th : hThr own ik ic cls) (hs : (own, is, text) ∈ hStrs) (hp : px cls) (hsz : L.length = nL)
    (d0 : decode cc pc = .ok (.new ik, 3)) (d3 : decode cc (pc + 3) = .ok (.dup, 1)) (d4 : decode cc (pc + 4) = .ok (.ldc is, 2)) (d6 : decode cc (pc + 6) = .ok (.invokespecial ic, 3)) (d9 : decode cc (pc + 9) = .ok (.athrow, 1))
    (hf : 5 < rm.frames) (hlo : (st.map fun v => v.category).sum + 82 ≤ rm.locals) (hc1 : n + 1 ≤ rm.cells) (hs1 : z + 6 ≤ rm.slots) (hc2 : n + 1 ≤ mc) (hs2 : z + 6 ≤ ms) :
    hG Γ k (hA M0 (kS k).heap.size) (hEndX Γ k M0 post px mc ms) M0 n z pc L st := by
  intro H locs ls h1 h2 h3 h4
  obtain ⟨t1, t2, t3, t4, t5, t6, t7⟩ := Th
  obtain ⟨sa, hsa⟩ := C.hx.2.2.2.1 _ hs
  refine vx_throwS (A := hA M0 (kS k).heap.size) (names := hNms) C.ex C.cd (by rw [C.la]; exact hl) C.ow t1 t2 (C.ts _ t3) (C.ts _ t4) hsa ?_ t7 C.hx.2.1 C.hx.2.2.1 h3 (by rw [C.ml, ← hsz]; exact h4.1) d0 d3 d4 d6 d9 (fun x hx => (hno x hx).elim) (by rw [C.ro]; exact hf) (by rw [C.ro]; exact hlo) (by rw [C.ro]; exact hc1) (by rw [C.ro]; exact hs1) C.lk ?_ h3.2.2 hc2 hs2
  · intro w hw
    by_cases g : goodWord w = true
    · exact C.ts _ (t5 w (List.mem_filter.mpr ⟨hw, g⟩))
    · have hg : (!goodWord w) = true := by
        cases hgw : goodWord w
        · rfl
        · exact absurd hgw g
      have hn := t6 w (List.mem_filter.mpr ⟨hw, hg⟩)
      have hot : w.onTables = true := by
        have g2 := (List.mem_filter.mp hn).2
        cases w <;> first | rfl | (simp [hNk] at g2)
      exact va_Nw.use hot (C.hx.2.2.2.2.1 w hn)
  · intro t hal hz hq
    refine ⟨hp, h1.kept hq, Nat.le_trans h3.1 hz, fun q g1 g2 => ?_⟩
    rw [hq q (Nat.lt_of_lt_of_le g1 h3.1)]
    exact h3.2.1 q g1 g2
/-- q of class E is thrown over the frame -/
def hGX (Γ : hGam) (k : hCtx) (A : Nat → Prop) (Q : State → Prop) (M : hM) (n z pc : Nat) (L : List (Option Value)) (st : List Value) (E : String) : Prop :=
  ∀ (H : Heap) (locs : List Loc) (ls : Array Slot) (q : Addr) (ce : Cell), hP Γ M H → hWr A M → va_S A (kS k).heap H locs → hLoc ls L → H[q]? = some ce → ce.vm = .none → (kS k).vm.findClass E = some ce.cls →
    vx_W (kP k) (kL k) (kE k) (kR k) (kS k) (kM k) (kA k) (kB k) (kT k) (kC k) H locs n z Q (F0 (kM k) pc ls st) q
theorem h_afterX {H : Heap} {locs : List Loc} {ls : Array Slot} {stk : List Value} {a9 : Array Value} {mc9 ms9 : Nat} {post : Option Value → hM → Prop} (C : hC Γ l k own nm cc nL ret rm A) (hr : vx_Run (kP k) (kL k) (kE k) (kR k) (kS k) (kM k) (kA k) (kB k) (kT k) (kC k) H locs n z mc9 ms9 (F0 (kM k) pc ls stk) st (hQ Γ M H.size post a9) (hXC Γ M H.size px) (hA M H.size)) (h2 : hWr A M) (h3 : va_S A (kS k).heap H locs) (h4 : hLoc ls L)
    (kx : ∀ E : String, px E → hGX Γ k A Q M (n + mc9) (z + ms9) pc L st E)
    (kk : ∀ (r : Option Value) (M1 : hM), post r M1 → hG Γ k A Q M1 (n + mc9) (z + ms9) (pc + 3) L (r.toList ++ st)) : W (kP k) (kL k) (kE k) (kR k) (kS k) (kM k) (kA k) (kB k) (kT k) (kC k) H locs n z Q (F0 (kM k) pc ls stk) := by
  intro T hT X
  have hsub : ∀ q, hA M H.size q → A q := fun q h => by
    rcases h with ⟨x, h⟩ | h
    · exact h2 q x h
    · exact C.ha q (Nat.le_trans h3.1 h)
  rcases hr T hT X with ⟨v, st₀, t, T', Lo, h0, X', hL, e1, e2, ⟨⟨r, M1, hv, hp, hP1, hW1⟩, hF⟩, step⟩ | ⟨q, st₀, t, T', Lo, E, ce, h0, X', hL, e1, e2, ⟨hpx, hP1, hF⟩, hce, hcv, hcl, step⟩
  · cases hv
    obtain ⟨k1, k2, k3⟩ := vx_keep (A0 := A) (A1 := hA M H.size) h0 e1 h3 (fun q _ h => hsub q h) hsub hL hF
    obtain ⟨t2, a1, b1⟩ := kk v M1 hp T'.heap (locs ++ Lo) ls (by rw [e1]; exact hP1) (fun a x h => hsub a (hW1 a x h)) k3 h4 T' rfl X'
    exact ⟨t2, step t2 a1, b1⟩
  · obtain ⟨k1, k2, k3⟩ := vx_keep (A0 := A) (A1 := hA M H.size) h0 e1 h3 (fun q _ h => hsub q h) hsub hL hF
    obtain ⟨t2, a1, b1⟩ := kx E hpx T'.heap (locs ++ Lo) ls q ce (by rw [e1]; exact hP1) h2 k3 h4 (by rw [e1]; exact hce) hcv hcl T' rfl X'
    exact ⟨t2, step.trans a1, b1⟩
theorem gx_callVX {y : MethodName} {bytes : ByteArray} {maxL index : Nat} {rt : Option FieldType} {rm' : Room} {post : Option Value → hM → Prop} {q b ci N : Nat} {T : u_T} {w : Bool} {fs : List Value} {As stk : List Value} (C : hC Γ l k own nm cc nL ret rm A) (Y : hYV y bytes maxL rt As.length) (hm : hMetX Γ l y bytes maxL rt rm' (.ref b :: As) M post px) (hl : Cond.methodLink own index y ∈ hTbl) (hb : M b = some (w, .inr (ci, fs))) (hc : vwCl[ci]? = some (y.cls, T, N)) (hR : rm'.frames + 1 ≤ rm.frames ∧ 8 + (maxL + 11) + rm'.locals ≤ rm.locals) (hsum : (st.map fun v => v.category).sum ≤ 8) (hsz : L.length = nL) (hcs : n + rm'.cells ≤ rm.cells ∧ z + rm'.slots ≤ rm.slots) (d : decode cc pc = .ok (.invokevirtual index, 3)) (hstk : stk = As.reverse ++ .ref b :: st) (hq : pc + 3 = q)
    (kx : ∀ E : String, px E → hGX Γ k A Q M (n + rm'.cells) (z + rm'.slots) pc L st E)
    (kk : ∀ (r : Option Value) (M1 : hM), post r M1 → hG Γ k A Q M1 (n + rm'.cells) (z + rm'.slots) q L (r.toList ++ st)) : hG Γ k A Q M n z pc L stk := by
  subst hq
  intro H locs ls h1 h2 h3 h4
  rw [← C.la] at hm
  refine h_afterX C (vx_runV (As := As) (rest := st) ⟨C.ex, C.cd, C.ml, C.ow, C.ts⟩ (hm H.size) ⟨hYF.cb C Y.1 hl hR, C.ts _ Y.2.1, C.ts _ Y.2.2⟩ ⟨hBx_blind, va_recv (D := Γ.1) (cl := vwCl) C.hk (h1.one hb) hc (q0 := 0) rfl, fun U hU hW => ⟨rfl, hBx_at C h1 h2 h3 U hU hW⟩⟩ rfl rfl (by rw [← hsz]; exact h4.1) hstk (h_sum hsum) d (by rw [C.ro]; exact hcs)) h2 h3 h4 kx kk
theorem g_callVX1I {y : MethodName} {bytes : ByteArray} {maxL index : Nat} {rt : Option FieldType} {rm' : Room} {q b ci N : Nat} {T : u_T} {w : Bool} {fs : List Value} {pi : Int32 → hM → Prop} {v1 : Value} (C : hC Γ l k own nm cc nL ret rm A) (Y : hYV y bytes maxL rt 1) (hm : hMetX Γ l y bytes maxL rt rm' (.ref b :: [v1]) M (hpI pi) px) (hx : ∀ E : String, px E → False) (hl : Cond.methodLink own index y ∈ hTbl) (hb : M b = some (w, .inr (ci, fs))) (hc : vwCl[ci]? = some (y.cls, T, N)) (hR : rm'.frames + 1 ≤ rm.frames ∧ 8 + (maxL + 11) + rm'.locals ≤ rm.locals) (hsum : (st.map fun v => v.category).sum ≤ 8) (hsz : L.length = nL) (d : decode cc pc = .ok (.invokevirtual index, 3)) (hcs : n + rm'.cells ≤ rm.cells ∧ z + rm'.slots ≤ rm.slots) (hq : pc + 3 = q)
    (kk : ∀ (x : Int32) (M1 : hM), pi x M1 → hG Γ k A Q M1 (n + rm'.cells) (z + rm'.slots) q L (.int x :: st)) : hG Γ k A Q M n z pc L (v1 :: .ref b :: st) :=
  gx_callVX (As := [v1]) C Y hm hl hb hc hR hsum hsz hcs d rfl hq (fun E hE => (hx E hE).elim) (fun r M1 hp => by
    obtain ⟨x, rfl, hx⟩ := hp
    exact kk x M1 hx)
theorem g_callVX2I {y : MethodName} {bytes : ByteArray} {maxL index : Nat} {rt : Option FieldType} {rm' : Room} {q b ci N : Nat} {T : u_T} {w : Bool} {fs : List Value} {pi : Int32 → hM → Prop} {v1 v2 : Value} (C : hC Γ l k own nm cc nL ret rm A) (Y : hYV y bytes maxL rt 2) (hm : hMetX Γ l y bytes maxL rt rm' (.ref b :: [v1, v2]) M (hpI pi) px) (hx : ∀ E : String, px E → False) (hl : Cond.methodLink own index y ∈ hTbl) (hb : M b = some (w, .inr (ci, fs))) (hc : vwCl[ci]? = some (y.cls, T, N)) (hR : rm'.frames + 1 ≤ rm.frames ∧ 8 + (maxL + 11) + rm'.locals ≤ rm.locals) (hsum : (st.map fun v => v.category).sum ≤ 8) (hsz : L.length = nL) (d : decode cc pc = .ok (.invokevirtual index, 3)) (hcs : n + rm'.cells ≤ rm.cells ∧ z + rm'.slots ≤ rm.slots) (hq : pc + 3 = q)
    (kk : ∀ (x : Int32) (M1 : hM), pi x M1 → hG Γ k A Q M1 (n + rm'.cells) (z + rm'.slots) q L (.int x :: st)) : hG Γ k A Q M n z pc L (v2 :: v1 :: .ref b :: st) :=
  gx_callVX (As := [v1, v2]) C Y hm hl hb hc hR hsum hsz hcs d rfl hq (fun E hE => (hx E hE).elim) (fun r M1 hp => by
    obtain ⟨x, rfl, hx⟩ := hp
    exact kk x M1 hx)
theorem g_callVX3I {y : MethodName} {bytes : ByteArray} {maxL index : Nat} {rt : Option FieldType} {rm' : Room} {q b ci N : Nat} {T : u_T} {w : Bool} {fs : List Value} {pi : Int32 → hM → Prop} {v1 v2 v3 : Value} (C : hC Γ l k own nm cc nL ret rm A) (Y : hYV y bytes maxL rt 3) (hm : hMetX Γ l y bytes maxL rt rm' (.ref b :: [v1, v2, v3]) M (hpI pi) px) (hx : ∀ E : String, px E → False) (hl : Cond.methodLink own index y ∈ hTbl) (hb : M b = some (w, .inr (ci, fs))) (hc : vwCl[ci]? = some (y.cls, T, N)) (hR : rm'.frames + 1 ≤ rm.frames ∧ 8 + (maxL + 11) + rm'.locals ≤ rm.locals) (hsum : (st.map fun v => v.category).sum ≤ 8) (hsz : L.length = nL) (d : decode cc pc = .ok (.invokevirtual index, 3)) (hcs : n + rm'.cells ≤ rm.cells ∧ z + rm'.slots ≤ rm.slots) (hq : pc + 3 = q)
    (kk : ∀ (x : Int32) (M1 : hM), pi x M1 → hG Γ k A Q M1 (n + rm'.cells) (z + rm'.slots) q L (.int x :: st)) : hG Γ k A Q M n z pc L (v3 :: v2 :: v1 :: .ref b :: st) :=
  gx_callVX (As := [v1, v2, v3]) C Y hm hl hb hc hR hsum hsz hcs d rfl hq (fun E hE => (hx E hE).elim) (fun r M1 hp => by
    obtain ⟨x, rfl, hx⟩ := hp
    exact kk x M1 hx)
theorem g_callVX4I {y : MethodName} {bytes : ByteArray} {maxL index : Nat} {rt : Option FieldType} {rm' : Room} {q b ci N : Nat} {T : u_T} {w : Bool} {fs : List Value} {pi : Int32 → hM → Prop} {v1 v2 v3 v4 : Value} (C : hC Γ l k own nm cc nL ret rm A) (Y : hYV y bytes maxL rt 4) (hm : hMetX Γ l y bytes maxL rt rm' (.ref b :: [v1, v2, v3, v4]) M (hpI pi) px) (hx : ∀ E : String, px E → False) (hl : Cond.methodLink own index y ∈ hTbl) (hb : M b = some (w, .inr (ci, fs))) (hc : vwCl[ci]? = some (y.cls, T, N)) (hR : rm'.frames + 1 ≤ rm.frames ∧ 8 + (maxL + 11) + rm'.locals ≤ rm.locals) (hsum : (st.map fun v => v.category).sum ≤ 8) (hsz : L.length = nL) (d : decode cc pc = .ok (.invokevirtual index, 3)) (hcs : n + rm'.cells ≤ rm.cells ∧ z + rm'.slots ≤ rm.slots) (hq : pc + 3 = q)
    (kk : ∀ (x : Int32) (M1 : hM), pi x M1 → hG Γ k A Q M1 (n + rm'.cells) (z + rm'.slots) q L (.int x :: st)) : hG Γ k A Q M n z pc L (v4 :: v3 :: v2 :: v1 :: .ref b :: st) :=
  gx_callVX (As := [v1, v2, v3, v4]) C Y hm hl hb hc hR hsum hsz hcs d rfl hq (fun E hE => (hx E hE).elim) (fun r M1 hp => by
    obtain ⟨x, rfl, hx⟩ := hp
    exact kk x M1 hx)
def thrN (ns : List String) (c : Nat) (E : String) : Prop := ∃ i, c = i + 1 ∧ ns[i]? = some E
theorem thrN_no {ns : List String} {c : Nat} (h : c = 0) : ∀ E : String, thrN ns c E → False := fun E q => by
  obtain ⟨i, h1, -⟩ := q
  omega
end hRows4
