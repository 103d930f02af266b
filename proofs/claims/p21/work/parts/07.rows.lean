section hRows
variable {Γ : hGam} {l : Launch} {k : hCtx} {own nm : String} {cc : ByteArray} {nL : Nat} {ret : Option FieldType} {rm : Room} {A : Nat → Prop} {Q : State → Prop} {M : hM} {n z pc : Nat} {L : List (Option Value)} {st : List Value}
def hRef (v : Value) : Prop := v = .null ∨ ∃ a, v = .ref a
theorem hRef_n : hRef .null := Or.inl rfl
theorem hRef_r (a : Nat) : hRef (.ref a) := Or.inr ⟨a, rfl⟩
theorem hRef_o (o : Option Nat) : hRef (va_rf o) := va_rf_or o
theorem hRef.cat {v : Value} (h : hRef v) : v.category = 1 := by
  rcases h with rfl | ⟨a, rfl⟩ <;> rfl
/-- fewer is known of the locals -/
theorem g_weak {L L' : List (Option Value)} (hn : L'.length = L.length) (hl : ∀ (i : Nat) (v : Value), L'[i]? = some (some v) → L[i]? = some (some v)) (kk : hG Γ k A Q M n z pc L' st) : hG Γ k A Q M n z pc L st :=
  fun H locs ls h1 h2 h3 h4 => kk H locs ls h1 h2 h3 (h4.weak hn hl)
theorem g_widen {n' z' : Nat} (hn : n ≤ n') (hz : z ≤ z') (kk : hG Γ k A Q M n' z' pc L st) : hG Γ k A Q M n z pc L st :=
  fun H locs ls h1 h2 h3 h4 => W.widen hn hz (kk H locs ls h1 h2 h3 h4)
theorem g_iconst {q : Nat} {i : Int} (v : Int32) (C : hC Γ l k own nm cc nL ret rm A) (d : decode cc pc = .ok (.iconst i, 1)) (hv : Int32.ofInt i = v) (hq : pc + 1 = q) (kk : hG Γ k A Q M n z q L (.int v :: st)) : hG Γ k A Q M n z pc L (st) := by
  subst hq
  intro H locs ls h1 h2 h3 h4
  exact lv_iconst C.ex C.cd d hv (kk H locs ls h1 h2 h3 h4)
theorem g_bipush {q : Nat} {i : Int} (v : Int32) (C : hC Γ l k own nm cc nL ret rm A) (d : decode cc pc = .ok (.bipush i, 2)) (hv : (Int8.ofInt i).toInt32 = v) (hq : pc + 2 = q) (kk : hG Γ k A Q M n z q L (.int v :: st)) : hG Γ k A Q M n z pc L (st) := by
  subst hq
  intro H locs ls h1 h2 h3 h4
  exact lv_bipush C.ex C.cd d hv (kk H locs ls h1 h2 h3 h4)
theorem g_sipush {q : Nat} {i : Int} (v : Int32) (C : hC Γ l k own nm cc nL ret rm A) (d : decode cc pc = .ok (.sipush i, 3)) (hv : (Int16.ofInt i).toInt32 = v) (hq : pc + 3 = q) (kk : hG Γ k A Q M n z q L (.int v :: st)) : hG Γ k A Q M n z pc L (st) := by
  subst hq
  intro H locs ls h1 h2 h3 h4
  exact lv_sipush C.ex C.cd d hv (kk H locs ls h1 h2 h3 h4)
theorem g_ldc2 {q : Nat} {i : Nat} {v : Int64} (C : hC Γ l k own nm cc nL ret rm A) (d : decode cc pc = .ok (.ldc2_w i, 3)) (hw : Cond.constantLong own i v ∈ hTbl) (hq : pc + 3 = q) (kk : hG Γ k A Q M n z q L (.long v :: st)) : hG Γ k A Q M n z pc L (st) := by
  subst hq
  intro H locs ls h1 h2 h3 h4
  exact lv_ldc2 C.ex C.cd C.ow (C.ts _ hw) d (kk H locs ls h1 h2 h3 h4)
theorem g_null {q : Nat}  (C : hC Γ l k own nm cc nL ret rm A) (d : decode cc pc = .ok (.aconst_null, 1))  (hq : pc + 1 = q) (kk : hG Γ k A Q M n z q L (.null :: st)) : hG Γ k A Q M n z pc L (st) := by
  subst hq
  intro H locs ls h1 h2 h3 h4
  exact lv_null C.ex C.cd d (kk H locs ls h1 h2 h3 h4)
theorem g_iload_n {q : Nat} {f : Fin 4} {x : Int32} (C : hC Γ l k own nm cc nL ret rm A) (d : decode cc pc = .ok (.iload_n f, 1)) (hl : L[(f : Nat)]? = some (some (.int x))) (hq : pc + 1 = q) (kk : hG Γ k A Q M n z q L (.int x :: st)) : hG Γ k A Q M n z pc L (st) := by
  subst hq
  intro H locs ls h1 h2 h3 h4
  exact lv_iload_n C.ex C.cd d rfl (h4.2.2 _ _ hl) (kk H locs ls h1 h2 h3 h4)
theorem g_iload {q : Nat} {i : Nat} {x : Int32} (C : hC Γ l k own nm cc nL ret rm A) (d : decode cc pc = .ok (.iload i, 2)) (hl : L[i]? = some (some (.int x))) (hq : pc + 2 = q) (kk : hG Γ k A Q M n z q L (.int x :: st)) : hG Γ k A Q M n z pc L (st) := by
  subst hq
  intro H locs ls h1 h2 h3 h4
  exact lv_iload C.ex C.cd d (h4.2.2 _ _ hl) (kk H locs ls h1 h2 h3 h4)
theorem g_lload_n {q : Nat} {f : Fin 4} {x : Int64} (C : hC Γ l k own nm cc nL ret rm A) (d : decode cc pc = .ok (.lload_n f, 1)) (hl : L[(f : Nat)]? = some (some (.long x))) (hq : pc + 1 = q) (kk : hG Γ k A Q M n z q L (.long x :: st)) : hG Γ k A Q M n z pc L (st) := by
  subst hq
  intro H locs ls h1 h2 h3 h4
  exact lv_lload_n C.ex C.cd d rfl (h4.2.2 _ _ hl) (kk H locs ls h1 h2 h3 h4)
theorem g_lload {q : Nat} {i : Nat} {x : Int64} (C : hC Γ l k own nm cc nL ret rm A) (d : decode cc pc = .ok (.lload i, 2)) (hl : L[i]? = some (some (.long x))) (hq : pc + 2 = q) (kk : hG Γ k A Q M n z q L (.long x :: st)) : hG Γ k A Q M n z pc L (st) := by
  subst hq
  intro H locs ls h1 h2 h3 h4
  exact lv_lload C.ex C.cd d (h4.2.2 _ _ hl) (kk H locs ls h1 h2 h3 h4)
theorem g_dload_n {q : Nat} {f : Fin 4} {x : UInt64} (C : hC Γ l k own nm cc nL ret rm A) (d : decode cc pc = .ok (.dload_n f, 1)) (hl : L[(f : Nat)]? = some (some (.double x))) (hq : pc + 1 = q) (kk : hG Γ k A Q M n z q L (.double x :: st)) : hG Γ k A Q M n z pc L (st) := by
  subst hq
  intro H locs ls h1 h2 h3 h4
  exact lv_dload_n C.ex C.cd d rfl (h4.2.2 _ _ hl) (kk H locs ls h1 h2 h3 h4)
theorem g_dload {q : Nat} {i : Nat} {x : UInt64} (C : hC Γ l k own nm cc nL ret rm A) (d : decode cc pc = .ok (.dload i, 2)) (hl : L[i]? = some (some (.double x))) (hq : pc + 2 = q) (kk : hG Γ k A Q M n z q L (.double x :: st)) : hG Γ k A Q M n z pc L (st) := by
  subst hq
  intro H locs ls h1 h2 h3 h4
  exact lv_dload C.ex C.cd d (h4.2.2 _ _ hl) (kk H locs ls h1 h2 h3 h4)
theorem g_aload_n {q : Nat} {f : Fin 4} {v : Value} (C : hC Γ l k own nm cc nL ret rm A) (d : decode cc pc = .ok (.aload_n f, 1)) (hl : L[(f : Nat)]? = some (some v)) (hv : hRef v) (hq : pc + 1 = q) (kk : hG Γ k A Q M n z q L (v :: st)) : hG Γ k A Q M n z pc L st := by
  subst hq
  intro H locs ls h1 h2 h3 h4
  rcases hv with rfl | ⟨a, rfl⟩
  · exact lv_aload_nN C.ex C.cd d rfl (h4.2.2 _ _ hl) (kk H locs ls h1 h2 h3 h4)
  · exact lv_aload_n C.ex C.cd d rfl (h4.2.2 _ _ hl) (kk H locs ls h1 h2 h3 h4)
theorem g_aload {q : Nat} {i : Nat} {v : Value} (C : hC Γ l k own nm cc nL ret rm A) (d : decode cc pc = .ok (.aload i, 2)) (hl : L[i]? = some (some v)) (hv : hRef v) (hq : pc + 2 = q) (kk : hG Γ k A Q M n z q L (v :: st)) : hG Γ k A Q M n z pc L st := by
  subst hq
  intro H locs ls h1 h2 h3 h4
  rcases hv with rfl | ⟨a, rfl⟩
  · exact lv_aloadN C.ex C.cd d (h4.2.2 _ _ hl) (kk H locs ls h1 h2 h3 h4)
  · exact lv_aload C.ex C.cd d (h4.2.2 _ _ hl) (kk H locs ls h1 h2 h3 h4)
theorem hst_lt {ls : Array Slot} {L : List (Option Value)} {i : Nat} (h : i < L.length) (h4 : hLoc ls L) : i < L.length := h
theorem gx_istore_n {q i : Nat} {L' : List (Option Value)} {f : Fin 4} {x : Int32} (C : hC Γ l k own nm cc nL ret rm A) (d : decode cc pc = .ok (.istore_n f, 1)) (hf : (f : Nat) = i) (hlt : i < L.length) (hp : hPrev L i = true) (hL : L.set i (some (.int x)) = L') (hq : pc + 1 = q) (kk : hG Γ k A Q M n z q L' st) : hG Γ k A Q M n z pc L (.int x :: st) := by
  subst hq; subst hL
  intro H locs ls h1 h2 h3 h4
  exact lv_istore_n C.ex C.cd d hf h4.has hlt rfl (fun ls' hl' => kk H locs ls' h1 h2 h3 (hLoc.store hp hl'))
theorem gx_istore {q i : Nat} {L' : List (Option Value)} {x : Int32} (C : hC Γ l k own nm cc nL ret rm A) (d : decode cc pc = .ok (.istore i, 2)) (hlt : i < L.length) (hp : hPrev L i = true) (hL : L.set i (some (.int x)) = L') (hq : pc + 2 = q) (kk : hG Γ k A Q M n z q L' st) : hG Γ k A Q M n z pc L (.int x :: st) := by
  subst hq; subst hL
  intro H locs ls h1 h2 h3 h4
  exact lv_istore C.ex C.cd d h4.has hlt rfl (fun ls' hl' => kk H locs ls' h1 h2 h3 (hLoc.store hp hl'))
theorem gx_lstore_n {q i : Nat} {L' : List (Option Value)} {f : Fin 4} {x : Int64} (C : hC Γ l k own nm cc nL ret rm A) (d : decode cc pc = .ok (.lstore_n f, 1)) (hf : (f : Nat) = i) (hlt : i + 1 < L.length) (hp : hPrev L i = true) (hL : (L.set i (some (.long x))).set (i + 1) none = L') (hq : pc + 1 = q) (kk : hG Γ k A Q M n z q L' st) : hG Γ k A Q M n z pc L (.long x :: st) := by
  subst hq; subst hL
  intro H locs ls h1 h2 h3 h4
  exact lv_lstore_n C.ex C.cd d hf h4.has hlt rfl (fun ls' hl' => kk H locs ls' h1 h2 h3 (hLoc.store2 hp hl'))
theorem gx_lstore {q i : Nat} {L' : List (Option Value)} {x : Int64} (C : hC Γ l k own nm cc nL ret rm A) (d : decode cc pc = .ok (.lstore i, 2)) (hlt : i + 1 < L.length) (hp : hPrev L i = true) (hL : (L.set i (some (.long x))).set (i + 1) none = L') (hq : pc + 2 = q) (kk : hG Γ k A Q M n z q L' st) : hG Γ k A Q M n z pc L (.long x :: st) := by
  subst hq; subst hL
  intro H locs ls h1 h2 h3 h4
  exact lv_lstore C.ex C.cd d h4.has hlt rfl (fun ls' hl' => kk H locs ls' h1 h2 h3 (hLoc.store2 hp hl'))
theorem gx_dstore_n {q i : Nat} {L' : List (Option Value)} {f : Fin 4} {x : UInt64} (C : hC Γ l k own nm cc nL ret rm A) (d : decode cc pc = .ok (.dstore_n f, 1)) (hf : (f : Nat) = i) (hlt : i + 1 < L.length) (hp : hPrev L i = true) (hL : (L.set i (some (.double x))).set (i + 1) none = L') (hq : pc + 1 = q) (kk : hG Γ k A Q M n z q L' st) : hG Γ k A Q M n z pc L (.double x :: st) := by
  subst hq; subst hL
  intro H locs ls h1 h2 h3 h4
  exact lv_dstore_n C.ex C.cd d hf h4.has hlt rfl (fun ls' hl' => kk H locs ls' h1 h2 h3 (hLoc.store2 hp hl'))
theorem gx_dstore {q i : Nat} {L' : List (Option Value)} {x : UInt64} (C : hC Γ l k own nm cc nL ret rm A) (d : decode cc pc = .ok (.dstore i, 2)) (hlt : i + 1 < L.length) (hp : hPrev L i = true) (hL : (L.set i (some (.double x))).set (i + 1) none = L') (hq : pc + 2 = q) (kk : hG Γ k A Q M n z q L' st) : hG Γ k A Q M n z pc L (.double x :: st) := by
  subst hq; subst hL
  intro H locs ls h1 h2 h3 h4
  exact lv_dstore C.ex C.cd d h4.has hlt rfl (fun ls' hl' => kk H locs ls' h1 h2 h3 (hLoc.store2 hp hl'))
theorem gx_astore_n {q i : Nat} {L' : List (Option Value)} {f : Fin 4} {v : Value} (C : hC Γ l k own nm cc nL ret rm A) (d : decode cc pc = .ok (.astore_n f, 1)) (hf : (f : Nat) = i) (hv : hRef v) (hlt : i < L.length) (hp : hPrev L i = true) (hL : L.set i (some v) = L') (hq : pc + 1 = q) (kk : hG Γ k A Q M n z q L' st) : hG Γ k A Q M n z pc L (v :: st) := by
  subst hq; subst hL
  intro H locs ls h1 h2 h3 h4
  rcases hv with rfl | ⟨a, rfl⟩
  · exact lv_astore_nN C.ex C.cd d hf h4.has hlt rfl (fun ls' hl' => kk H locs ls' h1 h2 h3 (hLoc.store hp hl'))
  · exact lv_astore_n C.ex C.cd d hf h4.has hlt rfl (fun ls' hl' => kk H locs ls' h1 h2 h3 (hLoc.store hp hl'))
theorem gx_astore {q i : Nat} {L' : List (Option Value)} {v : Value} (C : hC Γ l k own nm cc nL ret rm A) (d : decode cc pc = .ok (.astore i, 2)) (hv : hRef v) (hlt : i < L.length) (hp : hPrev L i = true) (hL : L.set i (some v) = L') (hq : pc + 2 = q) (kk : hG Γ k A Q M n z q L' st) : hG Γ k A Q M n z pc L (v :: st) := by
  subst hq; subst hL
  intro H locs ls h1 h2 h3 h4
  rcases hv with rfl | ⟨a, rfl⟩
  · exact lv_astoreN C.ex C.cd d h4.has hlt rfl (fun ls' hl' => kk H locs ls' h1 h2 h3 (hLoc.store hp hl'))
  · exact lv_astore C.ex C.cd d h4.has hlt rfl (fun ls' hl' => kk H locs ls' h1 h2 h3 (hLoc.store hp hl'))
theorem gx_iinc {q i : Nat} {L' : List (Option Value)} {j : Int} {x : Int32} (c : Int32) (C : hC Γ l k own nm cc nL ret rm A) (d : decode cc pc = .ok (.iinc i j, 3)) (hc : Int32.ofInt j = c) (hl : L[i]? = some (some (.int x))) (hp : hPrev L i = true) (hL : L.set i (some (.int (x + c))) = L') (hq : pc + 3 = q) (kk : hG Γ k A Q M n z q L' st) : hG Γ k A Q M n z pc L st := by
  subst hq; subst hL; subst hc
  intro H locs ls h1 h2 h3 h4
  obtain ⟨kx, hkx⟩ := List.getElem?_of_mem (hLv_mem hl)
  exact lv_iinc C.ex C.cd d h4.has hkx rfl ((List.getElem?_eq_some_iff.mp hl).1) rfl (fun ls' hl' => kk H locs ls' h1 h2 h3 (hLoc.store hp hl'))
theorem g_istore0 {q : Nat} {y : Option Value} {Lr : List (Option Value)} {x : Int32} (C : hC Γ l k own nm cc nL ret rm A) (d : decode cc pc = .ok (.istore_n 0, 1)) (hq : pc + 1 = q) (kk : hG Γ k A Q M n z q (some (.int x) :: Lr) st) : hG Γ k A Q M n z pc (y :: Lr) (.int x :: st) :=
  gx_istore_n (i := 0) C d rfl (by simp) rfl rfl hq kk
theorem g_lstore0 {q : Nat} {y y2 : Option Value} {Lr : List (Option Value)} {x : Int64} (C : hC Γ l k own nm cc nL ret rm A) (d : decode cc pc = .ok (.lstore_n 0, 1)) (hq : pc + 1 = q) (kk : hG Γ k A Q M n z q (some (.long x) :: none :: Lr) st) : hG Γ k A Q M n z pc (y :: y2 :: Lr) (.long x :: st) :=
  gx_lstore_n (i := 0) C d rfl (by simp) rfl rfl hq kk
theorem g_astore0 {q : Nat} {y : Option Value} {Lr : List (Option Value)} {v : Value} (C : hC Γ l k own nm cc nL ret rm A) (d : decode cc pc = .ok (.astore_n 0, 1)) (hv : hRef v) (hq : pc + 1 = q) (kk : hG Γ k A Q M n z q (some v :: Lr) st) : hG Γ k A Q M n z pc (y :: Lr) (v :: st) :=
  gx_astore_n (i := 0) C d rfl hv (by simp) rfl rfl hq kk
theorem g_iinc0 {q : Nat} {Lr : List (Option Value)} {j : Int} {x : Int32} (c : Int32) (C : hC Γ l k own nm cc nL ret rm A) (d : decode cc pc = .ok (.iinc 0 j, 3)) (hc : Int32.ofInt j = c) (hq : pc + 3 = q) (kk : hG Γ k A Q M n z q (some (.int (x + c)) :: Lr) st) : hG Γ k A Q M n z pc (some (.int x) :: Lr) st :=
  gx_iinc c C d hc rfl rfl rfl hq kk
theorem g_istore1 {q : Nat} {o0 : Option Value} {y : Option Value} {Lr : List (Option Value)} {x : Int32} (C : hC Γ l k own nm cc nL ret rm A) (d : decode cc pc = .ok (.istore_n 1, 1)) (hp : hNw o0 = true) (hq : pc + 1 = q) (kk : hG Γ k A Q M n z q (o0 :: some (.int x) :: Lr) st) : hG Γ k A Q M n z pc (o0 :: y :: Lr) (.int x :: st) :=
  gx_istore_n (i := 1) C d rfl (by simp) hp rfl hq kk
theorem g_lstore1 {q : Nat} {o0 : Option Value} {y y2 : Option Value} {Lr : List (Option Value)} {x : Int64} (C : hC Γ l k own nm cc nL ret rm A) (d : decode cc pc = .ok (.lstore_n 1, 1)) (hp : hNw o0 = true) (hq : pc + 1 = q) (kk : hG Γ k A Q M n z q (o0 :: some (.long x) :: none :: Lr) st) : hG Γ k A Q M n z pc (o0 :: y :: y2 :: Lr) (.long x :: st) :=
  gx_lstore_n (i := 1) C d rfl (by simp) hp rfl hq kk
theorem g_astore1 {q : Nat} {o0 : Option Value} {y : Option Value} {Lr : List (Option Value)} {v : Value} (C : hC Γ l k own nm cc nL ret rm A) (d : decode cc pc = .ok (.astore_n 1, 1)) (hv : hRef v) (hp : hNw o0 = true) (hq : pc + 1 = q) (kk : hG Γ k A Q M n z q (o0 :: some v :: Lr) st) : hG Γ k A Q M n z pc (o0 :: y :: Lr) (v :: st) :=
  gx_astore_n (i := 1) C d rfl hv (by simp) hp rfl hq kk
theorem g_iinc1 {q : Nat} {o0 : Option Value} {Lr : List (Option Value)} {j : Int} {x : Int32} (c : Int32) (C : hC Γ l k own nm cc nL ret rm A) (d : decode cc pc = .ok (.iinc 1 j, 3)) (hc : Int32.ofInt j = c) (hp : hNw o0 = true) (hq : pc + 3 = q) (kk : hG Γ k A Q M n z q (o0 :: some (.int (x + c)) :: Lr) st) : hG Γ k A Q M n z pc (o0 :: some (.int x) :: Lr) st :=
  gx_iinc c C d hc rfl hp rfl hq kk
theorem g_istore2 {q : Nat} {o0 o1 : Option Value} {y : Option Value} {Lr : List (Option Value)} {x : Int32} (C : hC Γ l k own nm cc nL ret rm A) (d : decode cc pc = .ok (.istore_n 2, 1)) (hp : hNw o1 = true) (hq : pc + 1 = q) (kk : hG Γ k A Q M n z q (o0 :: o1 :: some (.int x) :: Lr) st) : hG Γ k A Q M n z pc (o0 :: o1 :: y :: Lr) (.int x :: st) :=
  gx_istore_n (i := 2) C d rfl (by simp) hp rfl hq kk
theorem g_lstore2 {q : Nat} {o0 o1 : Option Value} {y y2 : Option Value} {Lr : List (Option Value)} {x : Int64} (C : hC Γ l k own nm cc nL ret rm A) (d : decode cc pc = .ok (.lstore_n 2, 1)) (hp : hNw o1 = true) (hq : pc + 1 = q) (kk : hG Γ k A Q M n z q (o0 :: o1 :: some (.long x) :: none :: Lr) st) : hG Γ k A Q M n z pc (o0 :: o1 :: y :: y2 :: Lr) (.long x :: st) :=
  gx_lstore_n (i := 2) C d rfl (by simp) hp rfl hq kk
theorem g_astore2 {q : Nat} {o0 o1 : Option Value} {y : Option Value} {Lr : List (Option Value)} {v : Value} (C : hC Γ l k own nm cc nL ret rm A) (d : decode cc pc = .ok (.astore_n 2, 1)) (hv : hRef v) (hp : hNw o1 = true) (hq : pc + 1 = q) (kk : hG Γ k A Q M n z q (o0 :: o1 :: some v :: Lr) st) : hG Γ k A Q M n z pc (o0 :: o1 :: y :: Lr) (v :: st) :=
  gx_astore_n (i := 2) C d rfl hv (by simp) hp rfl hq kk
theorem g_iinc2 {q : Nat} {o0 o1 : Option Value} {Lr : List (Option Value)} {j : Int} {x : Int32} (c : Int32) (C : hC Γ l k own nm cc nL ret rm A) (d : decode cc pc = .ok (.iinc 2 j, 3)) (hc : Int32.ofInt j = c) (hp : hNw o1 = true) (hq : pc + 3 = q) (kk : hG Γ k A Q M n z q (o0 :: o1 :: some (.int (x + c)) :: Lr) st) : hG Γ k A Q M n z pc (o0 :: o1 :: some (.int x) :: Lr) st :=
  gx_iinc c C d hc rfl hp rfl hq kk
theorem g_istore3 {q : Nat} {o0 o1 o2 : Option Value} {y : Option Value} {Lr : List (Option Value)} {x : Int32} (C : hC Γ l k own nm cc nL ret rm A) (d : decode cc pc = .ok (.istore_n 3, 1)) (hp : hNw o2 = true) (hq : pc + 1 = q) (kk : hG Γ k A Q M n z q (o0 :: o1 :: o2 :: some (.int x) :: Lr) st) : hG Γ k A Q M n z pc (o0 :: o1 :: o2 :: y :: Lr) (.int x :: st) :=
  gx_istore_n (i := 3) C d rfl (by simp) hp rfl hq kk
theorem g_lstore3 {q : Nat} {o0 o1 o2 : Option Value} {y y2 : Option Value} {Lr : List (Option Value)} {x : Int64} (C : hC Γ l k own nm cc nL ret rm A) (d : decode cc pc = .ok (.lstore_n 3, 1)) (hp : hNw o2 = true) (hq : pc + 1 = q) (kk : hG Γ k A Q M n z q (o0 :: o1 :: o2 :: some (.long x) :: none :: Lr) st) : hG Γ k A Q M n z pc (o0 :: o1 :: o2 :: y :: y2 :: Lr) (.long x :: st) :=
  gx_lstore_n (i := 3) C d rfl (by simp) hp rfl hq kk
theorem g_astore3 {q : Nat} {o0 o1 o2 : Option Value} {y : Option Value} {Lr : List (Option Value)} {v : Value} (C : hC Γ l k own nm cc nL ret rm A) (d : decode cc pc = .ok (.astore_n 3, 1)) (hv : hRef v) (hp : hNw o2 = true) (hq : pc + 1 = q) (kk : hG Γ k A Q M n z q (o0 :: o1 :: o2 :: some v :: Lr) st) : hG Γ k A Q M n z pc (o0 :: o1 :: o2 :: y :: Lr) (v :: st) :=
  gx_astore_n (i := 3) C d rfl hv (by simp) hp rfl hq kk
theorem g_iinc3 {q : Nat} {o0 o1 o2 : Option Value} {Lr : List (Option Value)} {j : Int} {x : Int32} (c : Int32) (C : hC Γ l k own nm cc nL ret rm A) (d : decode cc pc = .ok (.iinc 3 j, 3)) (hc : Int32.ofInt j = c) (hp : hNw o2 = true) (hq : pc + 3 = q) (kk : hG Γ k A Q M n z q (o0 :: o1 :: o2 :: some (.int (x + c)) :: Lr) st) : hG Γ k A Q M n z pc (o0 :: o1 :: o2 :: some (.int x) :: Lr) st :=
  gx_iinc c C d hc rfl hp rfl hq kk
theorem g_istore4 {q : Nat} {o0 o1 o2 o3 : Option Value} {y : Option Value} {Lr : List (Option Value)} {x : Int32} (C : hC Γ l k own nm cc nL ret rm A) (d : decode cc pc = .ok (.istore 4, 2)) (hp : hNw o3 = true) (hq : pc + 2 = q) (kk : hG Γ k A Q M n z q (o0 :: o1 :: o2 :: o3 :: some (.int x) :: Lr) st) : hG Γ k A Q M n z pc (o0 :: o1 :: o2 :: o3 :: y :: Lr) (.int x :: st) :=
  gx_istore (i := 4) C d (by simp) hp rfl hq kk
theorem g_lstore4 {q : Nat} {o0 o1 o2 o3 : Option Value} {y y2 : Option Value} {Lr : List (Option Value)} {x : Int64} (C : hC Γ l k own nm cc nL ret rm A) (d : decode cc pc = .ok (.lstore 4, 2)) (hp : hNw o3 = true) (hq : pc + 2 = q) (kk : hG Γ k A Q M n z q (o0 :: o1 :: o2 :: o3 :: some (.long x) :: none :: Lr) st) : hG Γ k A Q M n z pc (o0 :: o1 :: o2 :: o3 :: y :: y2 :: Lr) (.long x :: st) :=
  gx_lstore (i := 4) C d (by simp) hp rfl hq kk
theorem g_astore4 {q : Nat} {o0 o1 o2 o3 : Option Value} {y : Option Value} {Lr : List (Option Value)} {v : Value} (C : hC Γ l k own nm cc nL ret rm A) (d : decode cc pc = .ok (.astore 4, 2)) (hv : hRef v) (hp : hNw o3 = true) (hq : pc + 2 = q) (kk : hG Γ k A Q M n z q (o0 :: o1 :: o2 :: o3 :: some v :: Lr) st) : hG Γ k A Q M n z pc (o0 :: o1 :: o2 :: o3 :: y :: Lr) (v :: st) :=
  gx_astore (i := 4) C d hv (by simp) hp rfl hq kk
theorem g_iinc4 {q : Nat} {o0 o1 o2 o3 : Option Value} {Lr : List (Option Value)} {j : Int} {x : Int32} (c : Int32) (C : hC Γ l k own nm cc nL ret rm A) (d : decode cc pc = .ok (.iinc 4 j, 3)) (hc : Int32.ofInt j = c) (hp : hNw o3 = true) (hq : pc + 3 = q) (kk : hG Γ k A Q M n z q (o0 :: o1 :: o2 :: o3 :: some (.int (x + c)) :: Lr) st) : hG Γ k A Q M n z pc (o0 :: o1 :: o2 :: o3 :: some (.int x) :: Lr) st :=
  gx_iinc c C d hc rfl hp rfl hq kk
theorem g_istore5 {q : Nat} {o0 o1 o2 o3 o4 : Option Value} {y : Option Value} {Lr : List (Option Value)} {x : Int32} (C : hC Γ l k own nm cc nL ret rm A) (d : decode cc pc = .ok (.istore 5, 2)) (hp : hNw o4 = true) (hq : pc + 2 = q) (kk : hG Γ k A Q M n z q (o0 :: o1 :: o2 :: o3 :: o4 :: some (.int x) :: Lr) st) : hG Γ k A Q M n z pc (o0 :: o1 :: o2 :: o3 :: o4 :: y :: Lr) (.int x :: st) :=
  gx_istore (i := 5) C d (by simp) hp rfl hq kk
theorem g_lstore5 {q : Nat} {o0 o1 o2 o3 o4 : Option Value} {y y2 : Option Value} {Lr : List (Option Value)} {x : Int64} (C : hC Γ l k own nm cc nL ret rm A) (d : decode cc pc = .ok (.lstore 5, 2)) (hp : hNw o4 = true) (hq : pc + 2 = q) (kk : hG Γ k A Q M n z q (o0 :: o1 :: o2 :: o3 :: o4 :: some (.long x) :: none :: Lr) st) : hG Γ k A Q M n z pc (o0 :: o1 :: o2 :: o3 :: o4 :: y :: y2 :: Lr) (.long x :: st) :=
  gx_lstore (i := 5) C d (by simp) hp rfl hq kk
theorem g_astore5 {q : Nat} {o0 o1 o2 o3 o4 : Option Value} {y : Option Value} {Lr : List (Option Value)} {v : Value} (C : hC Γ l k own nm cc nL ret rm A) (d : decode cc pc = .ok (.astore 5, 2)) (hv : hRef v) (hp : hNw o4 = true) (hq : pc + 2 = q) (kk : hG Γ k A Q M n z q (o0 :: o1 :: o2 :: o3 :: o4 :: some v :: Lr) st) : hG Γ k A Q M n z pc (o0 :: o1 :: o2 :: o3 :: o4 :: y :: Lr) (v :: st) :=
  gx_astore (i := 5) C d hv (by simp) hp rfl hq kk
theorem g_iinc5 {q : Nat} {o0 o1 o2 o3 o4 : Option Value} {Lr : List (Option Value)} {j : Int} {x : Int32} (c : Int32) (C : hC Γ l k own nm cc nL ret rm A) (d : decode cc pc = .ok (.iinc 5 j, 3)) (hc : Int32.ofInt j = c) (hp : hNw o4 = true) (hq : pc + 3 = q) (kk : hG Γ k A Q M n z q (o0 :: o1 :: o2 :: o3 :: o4 :: some (.int (x + c)) :: Lr) st) : hG Γ k A Q M n z pc (o0 :: o1 :: o2 :: o3 :: o4 :: some (.int x) :: Lr) st :=
  gx_iinc c C d hc rfl hp rfl hq kk
theorem g_istore6 {q : Nat} {o0 o1 o2 o3 o4 o5 : Option Value} {y : Option Value} {Lr : List (Option Value)} {x : Int32} (C : hC Γ l k own nm cc nL ret rm A) (d : decode cc pc = .ok (.istore 6, 2)) (hp : hNw o5 = true) (hq : pc + 2 = q) (kk : hG Γ k A Q M n z q (o0 :: o1 :: o2 :: o3 :: o4 :: o5 :: some (.int x) :: Lr) st) : hG Γ k A Q M n z pc (o0 :: o1 :: o2 :: o3 :: o4 :: o5 :: y :: Lr) (.int x :: st) :=
  gx_istore (i := 6) C d (by simp) hp rfl hq kk
theorem g_lstore6 {q : Nat} {o0 o1 o2 o3 o4 o5 : Option Value} {y y2 : Option Value} {Lr : List (Option Value)} {x : Int64} (C : hC Γ l k own nm cc nL ret rm A) (d : decode cc pc = .ok (.lstore 6, 2)) (hp : hNw o5 = true) (hq : pc + 2 = q) (kk : hG Γ k A Q M n z q (o0 :: o1 :: o2 :: o3 :: o4 :: o5 :: some (.long x) :: none :: Lr) st) : hG Γ k A Q M n z pc (o0 :: o1 :: o2 :: o3 :: o4 :: o5 :: y :: y2 :: Lr) (.long x :: st) :=
  gx_lstore (i := 6) C d (by simp) hp rfl hq kk
theorem g_astore6 {q : Nat} {o0 o1 o2 o3 o4 o5 : Option Value} {y : Option Value} {Lr : List (Option Value)} {v : Value} (C : hC Γ l k own nm cc nL ret rm A) (d : decode cc pc = .ok (.astore 6, 2)) (hv : hRef v) (hp : hNw o5 = true) (hq : pc + 2 = q) (kk : hG Γ k A Q M n z q (o0 :: o1 :: o2 :: o3 :: o4 :: o5 :: some v :: Lr) st) : hG Γ k A Q M n z pc (o0 :: o1 :: o2 :: o3 :: o4 :: o5 :: y :: Lr) (v :: st) :=
  gx_astore (i := 6) C d hv (by simp) hp rfl hq kk
theorem g_iinc6 {q : Nat} {o0 o1 o2 o3 o4 o5 : Option Value} {Lr : List (Option Value)} {j : Int} {x : Int32} (c : Int32) (C : hC Γ l k own nm cc nL ret rm A) (d : decode cc pc = .ok (.iinc 6 j, 3)) (hc : Int32.ofInt j = c) (hp : hNw o5 = true) (hq : pc + 3 = q) (kk : hG Γ k A Q M n z q (o0 :: o1 :: o2 :: o3 :: o4 :: o5 :: some (.int (x + c)) :: Lr) st) : hG Γ k A Q M n z pc (o0 :: o1 :: o2 :: o3 :: o4 :: o5 :: some (.int x) :: Lr) st :=
  gx_iinc c C d hc rfl hp rfl hq kk
theorem g_istore7 {q : Nat} {o0 o1 o2 o3 o4 o5 o6 : Option Value} {y : Option Value} {Lr : List (Option Value)} {x : Int32} (C : hC Γ l k own nm cc nL ret rm A) (d : decode cc pc = .ok (.istore 7, 2)) (hp : hNw o6 = true) (hq : pc + 2 = q) (kk : hG Γ k A Q M n z q (o0 :: o1 :: o2 :: o3 :: o4 :: o5 :: o6 :: some (.int x) :: Lr) st) : hG Γ k A Q M n z pc (o0 :: o1 :: o2 :: o3 :: o4 :: o5 :: o6 :: y :: Lr) (.int x :: st) :=
  gx_istore (i := 7) C d (by simp) hp rfl hq kk
theorem g_lstore7 {q : Nat} {o0 o1 o2 o3 o4 o5 o6 : Option Value} {y y2 : Option Value} {Lr : List (Option Value)} {x : Int64} (C : hC Γ l k own nm cc nL ret rm A) (d : decode cc pc = .ok (.lstore 7, 2)) (hp : hNw o6 = true) (hq : pc + 2 = q) (kk : hG Γ k A Q M n z q (o0 :: o1 :: o2 :: o3 :: o4 :: o5 :: o6 :: some (.long x) :: none :: Lr) st) : hG Γ k A Q M n z pc (o0 :: o1 :: o2 :: o3 :: o4 :: o5 :: o6 :: y :: y2 :: Lr) (.long x :: st) :=
  gx_lstore (i := 7) C d (by simp) hp rfl hq kk
theorem g_astore7 {q : Nat} {o0 o1 o2 o3 o4 o5 o6 : Option Value} {y : Option Value} {Lr : List (Option Value)} {v : Value} (C : hC Γ l k own nm cc nL ret rm A) (d : decode cc pc = .ok (.astore 7, 2)) (hv : hRef v) (hp : hNw o6 = true) (hq : pc + 2 = q) (kk : hG Γ k A Q M n z q (o0 :: o1 :: o2 :: o3 :: o4 :: o5 :: o6 :: some v :: Lr) st) : hG Γ k A Q M n z pc (o0 :: o1 :: o2 :: o3 :: o4 :: o5 :: o6 :: y :: Lr) (v :: st) :=
  gx_astore (i := 7) C d hv (by simp) hp rfl hq kk
theorem g_iinc7 {q : Nat} {o0 o1 o2 o3 o4 o5 o6 : Option Value} {Lr : List (Option Value)} {j : Int} {x : Int32} (c : Int32) (C : hC Γ l k own nm cc nL ret rm A) (d : decode cc pc = .ok (.iinc 7 j, 3)) (hc : Int32.ofInt j = c) (hp : hNw o6 = true) (hq : pc + 3 = q) (kk : hG Γ k A Q M n z q (o0 :: o1 :: o2 :: o3 :: o4 :: o5 :: o6 :: some (.int (x + c)) :: Lr) st) : hG Γ k A Q M n z pc (o0 :: o1 :: o2 :: o3 :: o4 :: o5 :: o6 :: some (.int x) :: Lr) st :=
  gx_iinc c C d hc rfl hp rfl hq kk
theorem g_istore8 {q : Nat} {o0 o1 o2 o3 o4 o5 o6 o7 : Option Value} {y : Option Value} {Lr : List (Option Value)} {x : Int32} (C : hC Γ l k own nm cc nL ret rm A) (d : decode cc pc = .ok (.istore 8, 2)) (hp : hNw o7 = true) (hq : pc + 2 = q) (kk : hG Γ k A Q M n z q (o0 :: o1 :: o2 :: o3 :: o4 :: o5 :: o6 :: o7 :: some (.int x) :: Lr) st) : hG Γ k A Q M n z pc (o0 :: o1 :: o2 :: o3 :: o4 :: o5 :: o6 :: o7 :: y :: Lr) (.int x :: st) :=
  gx_istore (i := 8) C d (by simp) hp rfl hq kk
theorem g_astore8 {q : Nat} {o0 o1 o2 o3 o4 o5 o6 o7 : Option Value} {y : Option Value} {Lr : List (Option Value)} {v : Value} (C : hC Γ l k own nm cc nL ret rm A) (d : decode cc pc = .ok (.astore 8, 2)) (hv : hRef v) (hp : hNw o7 = true) (hq : pc + 2 = q) (kk : hG Γ k A Q M n z q (o0 :: o1 :: o2 :: o3 :: o4 :: o5 :: o6 :: o7 :: some v :: Lr) st) : hG Γ k A Q M n z pc (o0 :: o1 :: o2 :: o3 :: o4 :: o5 :: o6 :: o7 :: y :: Lr) (v :: st) :=
  gx_astore (i := 8) C d hv (by simp) hp rfl hq kk
theorem g_iinc8 {q : Nat} {o0 o1 o2 o3 o4 o5 o6 o7 : Option Value} {Lr : List (Option Value)} {j : Int} {x : Int32} (c : Int32) (C : hC Γ l k own nm cc nL ret rm A) (d : decode cc pc = .ok (.iinc 8 j, 3)) (hc : Int32.ofInt j = c) (hp : hNw o7 = true) (hq : pc + 3 = q) (kk : hG Γ k A Q M n z q (o0 :: o1 :: o2 :: o3 :: o4 :: o5 :: o6 :: o7 :: some (.int (x + c)) :: Lr) st) : hG Γ k A Q M n z pc (o0 :: o1 :: o2 :: o3 :: o4 :: o5 :: o6 :: o7 :: some (.int x) :: Lr) st :=
  gx_iinc c C d hc rfl hp rfl hq kk
theorem g_istore9 {q : Nat} {o0 o1 o2 o3 o4 o5 o6 o7 o8 : Option Value} {y : Option Value} {Lr : List (Option Value)} {x : Int32} (C : hC Γ l k own nm cc nL ret rm A) (d : decode cc pc = .ok (.istore 9, 2)) (hp : hNw o8 = true) (hq : pc + 2 = q) (kk : hG Γ k A Q M n z q (o0 :: o1 :: o2 :: o3 :: o4 :: o5 :: o6 :: o7 :: o8 :: some (.int x) :: Lr) st) : hG Γ k A Q M n z pc (o0 :: o1 :: o2 :: o3 :: o4 :: o5 :: o6 :: o7 :: o8 :: y :: Lr) (.int x :: st) :=
  gx_istore (i := 9) C d (by simp) hp rfl hq kk
theorem g_astore9 {q : Nat} {o0 o1 o2 o3 o4 o5 o6 o7 o8 : Option Value} {y : Option Value} {Lr : List (Option Value)} {v : Value} (C : hC Γ l k own nm cc nL ret rm A) (d : decode cc pc = .ok (.astore 9, 2)) (hv : hRef v) (hp : hNw o8 = true) (hq : pc + 2 = q) (kk : hG Γ k A Q M n z q (o0 :: o1 :: o2 :: o3 :: o4 :: o5 :: o6 :: o7 :: o8 :: some v :: Lr) st) : hG Γ k A Q M n z pc (o0 :: o1 :: o2 :: o3 :: o4 :: o5 :: o6 :: o7 :: o8 :: y :: Lr) (v :: st) :=
  gx_astore (i := 9) C d hv (by simp) hp rfl hq kk
theorem g_iinc9 {q : Nat} {o0 o1 o2 o3 o4 o5 o6 o7 o8 : Option Value} {Lr : List (Option Value)} {j : Int} {x : Int32} (c : Int32) (C : hC Γ l k own nm cc nL ret rm A) (d : decode cc pc = .ok (.iinc 9 j, 3)) (hc : Int32.ofInt j = c) (hp : hNw o8 = true) (hq : pc + 3 = q) (kk : hG Γ k A Q M n z q (o0 :: o1 :: o2 :: o3 :: o4 :: o5 :: o6 :: o7 :: o8 :: some (.int (x + c)) :: Lr) st) : hG Γ k A Q M n z pc (o0 :: o1 :: o2 :: o3 :: o4 :: o5 :: o6 :: o7 :: o8 :: some (.int x) :: Lr) st :=
  gx_iinc c C d hc rfl hp rfl hq kk
theorem g_istore10 {q : Nat} {o0 o1 o2 o3 o4 o5 o6 o7 o8 o9 : Option Value} {y : Option Value} {Lr : List (Option Value)} {x : Int32} (C : hC Γ l k own nm cc nL ret rm A) (d : decode cc pc = .ok (.istore 10, 2)) (hp : hNw o9 = true) (hq : pc + 2 = q) (kk : hG Γ k A Q M n z q (o0 :: o1 :: o2 :: o3 :: o4 :: o5 :: o6 :: o7 :: o8 :: o9 :: some (.int x) :: Lr) st) : hG Γ k A Q M n z pc (o0 :: o1 :: o2 :: o3 :: o4 :: o5 :: o6 :: o7 :: o8 :: o9 :: y :: Lr) (.int x :: st) :=
  gx_istore (i := 10) C d (by simp) hp rfl hq kk
theorem g_astore10 {q : Nat} {o0 o1 o2 o3 o4 o5 o6 o7 o8 o9 : Option Value} {y : Option Value} {Lr : List (Option Value)} {v : Value} (C : hC Γ l k own nm cc nL ret rm A) (d : decode cc pc = .ok (.astore 10, 2)) (hv : hRef v) (hp : hNw o9 = true) (hq : pc + 2 = q) (kk : hG Γ k A Q M n z q (o0 :: o1 :: o2 :: o3 :: o4 :: o5 :: o6 :: o7 :: o8 :: o9 :: some v :: Lr) st) : hG Γ k A Q M n z pc (o0 :: o1 :: o2 :: o3 :: o4 :: o5 :: o6 :: o7 :: o8 :: o9 :: y :: Lr) (v :: st) :=
  gx_astore (i := 10) C d hv (by simp) hp rfl hq kk
theorem g_iinc10 {q : Nat} {o0 o1 o2 o3 o4 o5 o6 o7 o8 o9 : Option Value} {Lr : List (Option Value)} {j : Int} {x : Int32} (c : Int32) (C : hC Γ l k own nm cc nL ret rm A) (d : decode cc pc = .ok (.iinc 10 j, 3)) (hc : Int32.ofInt j = c) (hp : hNw o9 = true) (hq : pc + 3 = q) (kk : hG Γ k A Q M n z q (o0 :: o1 :: o2 :: o3 :: o4 :: o5 :: o6 :: o7 :: o8 :: o9 :: some (.int (x + c)) :: Lr) st) : hG Γ k A Q M n z pc (o0 :: o1 :: o2 :: o3 :: o4 :: o5 :: o6 :: o7 :: o8 :: o9 :: some (.int x) :: Lr) st :=
  gx_iinc c C d hc rfl hp rfl hq kk
theorem g_istore11 {q : Nat} {o0 o1 o2 o3 o4 o5 o6 o7 o8 o9 o10 : Option Value} {y : Option Value} {Lr : List (Option Value)} {x : Int32} (C : hC Γ l k own nm cc nL ret rm A) (d : decode cc pc = .ok (.istore 11, 2)) (hp : hNw o10 = true) (hq : pc + 2 = q) (kk : hG Γ k A Q M n z q (o0 :: o1 :: o2 :: o3 :: o4 :: o5 :: o6 :: o7 :: o8 :: o9 :: o10 :: some (.int x) :: Lr) st) : hG Γ k A Q M n z pc (o0 :: o1 :: o2 :: o3 :: o4 :: o5 :: o6 :: o7 :: o8 :: o9 :: o10 :: y :: Lr) (.int x :: st) :=
  gx_istore (i := 11) C d (by simp) hp rfl hq kk
theorem g_astore11 {q : Nat} {o0 o1 o2 o3 o4 o5 o6 o7 o8 o9 o10 : Option Value} {y : Option Value} {Lr : List (Option Value)} {v : Value} (C : hC Γ l k own nm cc nL ret rm A) (d : decode cc pc = .ok (.astore 11, 2)) (hv : hRef v) (hp : hNw o10 = true) (hq : pc + 2 = q) (kk : hG Γ k A Q M n z q (o0 :: o1 :: o2 :: o3 :: o4 :: o5 :: o6 :: o7 :: o8 :: o9 :: o10 :: some v :: Lr) st) : hG Γ k A Q M n z pc (o0 :: o1 :: o2 :: o3 :: o4 :: o5 :: o6 :: o7 :: o8 :: o9 :: o10 :: y :: Lr) (v :: st) :=
  gx_astore (i := 11) C d hv (by simp) hp rfl hq kk
theorem g_iinc11 {q : Nat} {o0 o1 o2 o3 o4 o5 o6 o7 o8 o9 o10 : Option Value} {Lr : List (Option Value)} {j : Int} {x : Int32} (c : Int32) (C : hC Γ l k own nm cc nL ret rm A) (d : decode cc pc = .ok (.iinc 11 j, 3)) (hc : Int32.ofInt j = c) (hp : hNw o10 = true) (hq : pc + 3 = q) (kk : hG Γ k A Q M n z q (o0 :: o1 :: o2 :: o3 :: o4 :: o5 :: o6 :: o7 :: o8 :: o9 :: o10 :: some (.int (x + c)) :: Lr) st) : hG Γ k A Q M n z pc (o0 :: o1 :: o2 :: o3 :: o4 :: o5 :: o6 :: o7 :: o8 :: o9 :: o10 :: some (.int x) :: Lr) st :=
  gx_iinc c C d hc rfl hp rfl hq kk
theorem g_istore12 {q : Nat} {o0 o1 o2 o3 o4 o5 o6 o7 o8 o9 o10 o11 : Option Value} {y : Option Value} {Lr : List (Option Value)} {x : Int32} (C : hC Γ l k own nm cc nL ret rm A) (d : decode cc pc = .ok (.istore 12, 2)) (hp : hNw o11 = true) (hq : pc + 2 = q) (kk : hG Γ k A Q M n z q (o0 :: o1 :: o2 :: o3 :: o4 :: o5 :: o6 :: o7 :: o8 :: o9 :: o10 :: o11 :: some (.int x) :: Lr) st) : hG Γ k A Q M n z pc (o0 :: o1 :: o2 :: o3 :: o4 :: o5 :: o6 :: o7 :: o8 :: o9 :: o10 :: o11 :: y :: Lr) (.int x :: st) :=
  gx_istore (i := 12) C d (by simp) hp rfl hq kk
theorem g_astore12 {q : Nat} {o0 o1 o2 o3 o4 o5 o6 o7 o8 o9 o10 o11 : Option Value} {y : Option Value} {Lr : List (Option Value)} {v : Value} (C : hC Γ l k own nm cc nL ret rm A) (d : decode cc pc = .ok (.astore 12, 2)) (hv : hRef v) (hp : hNw o11 = true) (hq : pc + 2 = q) (kk : hG Γ k A Q M n z q (o0 :: o1 :: o2 :: o3 :: o4 :: o5 :: o6 :: o7 :: o8 :: o9 :: o10 :: o11 :: some v :: Lr) st) : hG Γ k A Q M n z pc (o0 :: o1 :: o2 :: o3 :: o4 :: o5 :: o6 :: o7 :: o8 :: o9 :: o10 :: o11 :: y :: Lr) (v :: st) :=
  gx_astore (i := 12) C d hv (by simp) hp rfl hq kk
theorem g_iinc12 {q : Nat} {o0 o1 o2 o3 o4 o5 o6 o7 o8 o9 o10 o11 : Option Value} {Lr : List (Option Value)} {j : Int} {x : Int32} (c : Int32) (C : hC Γ l k own nm cc nL ret rm A) (d : decode cc pc = .ok (.iinc 12 j, 3)) (hc : Int32.ofInt j = c) (hp : hNw o11 = true) (hq : pc + 3 = q) (kk : hG Γ k A Q M n z q (o0 :: o1 :: o2 :: o3 :: o4 :: o5 :: o6 :: o7 :: o8 :: o9 :: o10 :: o11 :: some (.int (x + c)) :: Lr) st) : hG Γ k A Q M n z pc (o0 :: o1 :: o2 :: o3 :: o4 :: o5 :: o6 :: o7 :: o8 :: o9 :: o10 :: o11 :: some (.int x) :: Lr) st :=
  gx_iinc c C d hc rfl hp rfl hq kk
theorem g_istore13 {q : Nat} {o0 o1 o2 o3 o4 o5 o6 o7 o8 o9 o10 o11 o12 : Option Value} {y : Option Value} {Lr : List (Option Value)} {x : Int32} (C : hC Γ l k own nm cc nL ret rm A) (d : decode cc pc = .ok (.istore 13, 2)) (hp : hNw o12 = true) (hq : pc + 2 = q) (kk : hG Γ k A Q M n z q (o0 :: o1 :: o2 :: o3 :: o4 :: o5 :: o6 :: o7 :: o8 :: o9 :: o10 :: o11 :: o12 :: some (.int x) :: Lr) st) : hG Γ k A Q M n z pc (o0 :: o1 :: o2 :: o3 :: o4 :: o5 :: o6 :: o7 :: o8 :: o9 :: o10 :: o11 :: o12 :: y :: Lr) (.int x :: st) :=
  gx_istore (i := 13) C d (by simp) hp rfl hq kk
theorem g_astore13 {q : Nat} {o0 o1 o2 o3 o4 o5 o6 o7 o8 o9 o10 o11 o12 : Option Value} {y : Option Value} {Lr : List (Option Value)} {v : Value} (C : hC Γ l k own nm cc nL ret rm A) (d : decode cc pc = .ok (.astore 13, 2)) (hv : hRef v) (hp : hNw o12 = true) (hq : pc + 2 = q) (kk : hG Γ k A Q M n z q (o0 :: o1 :: o2 :: o3 :: o4 :: o5 :: o6 :: o7 :: o8 :: o9 :: o10 :: o11 :: o12 :: some v :: Lr) st) : hG Γ k A Q M n z pc (o0 :: o1 :: o2 :: o3 :: o4 :: o5 :: o6 :: o7 :: o8 :: o9 :: o10 :: o11 :: o12 :: y :: Lr) (v :: st) :=
  gx_astore (i := 13) C d hv (by simp) hp rfl hq kk
theorem g_iinc13 {q : Nat} {o0 o1 o2 o3 o4 o5 o6 o7 o8 o9 o10 o11 o12 : Option Value} {Lr : List (Option Value)} {j : Int} {x : Int32} (c : Int32) (C : hC Γ l k own nm cc nL ret rm A) (d : decode cc pc = .ok (.iinc 13 j, 3)) (hc : Int32.ofInt j = c) (hp : hNw o12 = true) (hq : pc + 3 = q) (kk : hG Γ k A Q M n z q (o0 :: o1 :: o2 :: o3 :: o4 :: o5 :: o6 :: o7 :: o8 :: o9 :: o10 :: o11 :: o12 :: some (.int (x + c)) :: Lr) st) : hG Γ k A Q M n z pc (o0 :: o1 :: o2 :: o3 :: o4 :: o5 :: o6 :: o7 :: o8 :: o9 :: o10 :: o11 :: o12 :: some (.int x) :: Lr) st :=
  gx_iinc c C d hc rfl hp rfl hq kk
theorem g_istore14 {q : Nat} {o0 o1 o2 o3 o4 o5 o6 o7 o8 o9 o10 o11 o12 o13 : Option Value} {y : Option Value} {Lr : List (Option Value)} {x : Int32} (C : hC Γ l k own nm cc nL ret rm A) (d : decode cc pc = .ok (.istore 14, 2)) (hp : hNw o13 = true) (hq : pc + 2 = q) (kk : hG Γ k A Q M n z q (o0 :: o1 :: o2 :: o3 :: o4 :: o5 :: o6 :: o7 :: o8 :: o9 :: o10 :: o11 :: o12 :: o13 :: some (.int x) :: Lr) st) : hG Γ k A Q M n z pc (o0 :: o1 :: o2 :: o3 :: o4 :: o5 :: o6 :: o7 :: o8 :: o9 :: o10 :: o11 :: o12 :: o13 :: y :: Lr) (.int x :: st) :=
  gx_istore (i := 14) C d (by simp) hp rfl hq kk
theorem g_astore14 {q : Nat} {o0 o1 o2 o3 o4 o5 o6 o7 o8 o9 o10 o11 o12 o13 : Option Value} {y : Option Value} {Lr : List (Option Value)} {v : Value} (C : hC Γ l k own nm cc nL ret rm A) (d : decode cc pc = .ok (.astore 14, 2)) (hv : hRef v) (hp : hNw o13 = true) (hq : pc + 2 = q) (kk : hG Γ k A Q M n z q (o0 :: o1 :: o2 :: o3 :: o4 :: o5 :: o6 :: o7 :: o8 :: o9 :: o10 :: o11 :: o12 :: o13 :: some v :: Lr) st) : hG Γ k A Q M n z pc (o0 :: o1 :: o2 :: o3 :: o4 :: o5 :: o6 :: o7 :: o8 :: o9 :: o10 :: o11 :: o12 :: o13 :: y :: Lr) (v :: st) :=
  gx_astore (i := 14) C d hv (by simp) hp rfl hq kk
theorem g_iinc14 {q : Nat} {o0 o1 o2 o3 o4 o5 o6 o7 o8 o9 o10 o11 o12 o13 : Option Value} {Lr : List (Option Value)} {j : Int} {x : Int32} (c : Int32) (C : hC Γ l k own nm cc nL ret rm A) (d : decode cc pc = .ok (.iinc 14 j, 3)) (hc : Int32.ofInt j = c) (hp : hNw o13 = true) (hq : pc + 3 = q) (kk : hG Γ k A Q M n z q (o0 :: o1 :: o2 :: o3 :: o4 :: o5 :: o6 :: o7 :: o8 :: o9 :: o10 :: o11 :: o12 :: o13 :: some (.int (x + c)) :: Lr) st) : hG Γ k A Q M n z pc (o0 :: o1 :: o2 :: o3 :: o4 :: o5 :: o6 :: o7 :: o8 :: o9 :: o10 :: o11 :: o12 :: o13 :: some (.int x) :: Lr) st :=
  gx_iinc c C d hc rfl hp rfl hq kk
theorem g_istore15 {q : Nat} {o0 o1 o2 o3 o4 o5 o6 o7 o8 o9 o10 o11 o12 o13 o14 : Option Value} {y : Option Value} {Lr : List (Option Value)} {x : Int32} (C : hC Γ l k own nm cc nL ret rm A) (d : decode cc pc = .ok (.istore 15, 2)) (hp : hNw o14 = true) (hq : pc + 2 = q) (kk : hG Γ k A Q M n z q (o0 :: o1 :: o2 :: o3 :: o4 :: o5 :: o6 :: o7 :: o8 :: o9 :: o10 :: o11 :: o12 :: o13 :: o14 :: some (.int x) :: Lr) st) : hG Γ k A Q M n z pc (o0 :: o1 :: o2 :: o3 :: o4 :: o5 :: o6 :: o7 :: o8 :: o9 :: o10 :: o11 :: o12 :: o13 :: o14 :: y :: Lr) (.int x :: st) :=
  gx_istore (i := 15) C d (by simp) hp rfl hq kk
theorem g_astore15 {q : Nat} {o0 o1 o2 o3 o4 o5 o6 o7 o8 o9 o10 o11 o12 o13 o14 : Option Value} {y : Option Value} {Lr : List (Option Value)} {v : Value} (C : hC Γ l k own nm cc nL ret rm A) (d : decode cc pc = .ok (.astore 15, 2)) (hv : hRef v) (hp : hNw o14 = true) (hq : pc + 2 = q) (kk : hG Γ k A Q M n z q (o0 :: o1 :: o2 :: o3 :: o4 :: o5 :: o6 :: o7 :: o8 :: o9 :: o10 :: o11 :: o12 :: o13 :: o14 :: some v :: Lr) st) : hG Γ k A Q M n z pc (o0 :: o1 :: o2 :: o3 :: o4 :: o5 :: o6 :: o7 :: o8 :: o9 :: o10 :: o11 :: o12 :: o13 :: o14 :: y :: Lr) (v :: st) :=
  gx_astore (i := 15) C d hv (by simp) hp rfl hq kk
theorem g_iinc15 {q : Nat} {o0 o1 o2 o3 o4 o5 o6 o7 o8 o9 o10 o11 o12 o13 o14 : Option Value} {Lr : List (Option Value)} {j : Int} {x : Int32} (c : Int32) (C : hC Γ l k own nm cc nL ret rm A) (d : decode cc pc = .ok (.iinc 15 j, 3)) (hc : Int32.ofInt j = c) (hp : hNw o14 = true) (hq : pc + 3 = q) (kk : hG Γ k A Q M n z q (o0 :: o1 :: o2 :: o3 :: o4 :: o5 :: o6 :: o7 :: o8 :: o9 :: o10 :: o11 :: o12 :: o13 :: o14 :: some (.int (x + c)) :: Lr) st) : hG Γ k A Q M n z pc (o0 :: o1 :: o2 :: o3 :: o4 :: o5 :: o6 :: o7 :: o8 :: o9 :: o10 :: o11 :: o12 :: o13 :: o14 :: some (.int x) :: Lr) st :=
  gx_iinc c C d hc rfl hp rfl hq kk
theorem g_istore16 {q : Nat} {o0 o1 o2 o3 o4 o5 o6 o7 o8 o9 o10 o11 o12 o13 o14 o15 : Option Value} {y : Option Value} {Lr : List (Option Value)} {x : Int32} (C : hC Γ l k own nm cc nL ret rm A) (d : decode cc pc = .ok (.istore 16, 2)) (hp : hNw o15 = true) (hq : pc + 2 = q) (kk : hG Γ k A Q M n z q (o0 :: o1 :: o2 :: o3 :: o4 :: o5 :: o6 :: o7 :: o8 :: o9 :: o10 :: o11 :: o12 :: o13 :: o14 :: o15 :: some (.int x) :: Lr) st) : hG Γ k A Q M n z pc (o0 :: o1 :: o2 :: o3 :: o4 :: o5 :: o6 :: o7 :: o8 :: o9 :: o10 :: o11 :: o12 :: o13 :: o14 :: o15 :: y :: Lr) (.int x :: st) :=
  gx_istore (i := 16) C d (by simp) hp rfl hq kk
theorem g_astore16 {q : Nat} {o0 o1 o2 o3 o4 o5 o6 o7 o8 o9 o10 o11 o12 o13 o14 o15 : Option Value} {y : Option Value} {Lr : List (Option Value)} {v : Value} (C : hC Γ l k own nm cc nL ret rm A) (d : decode cc pc = .ok (.astore 16, 2)) (hv : hRef v) (hp : hNw o15 = true) (hq : pc + 2 = q) (kk : hG Γ k A Q M n z q (o0 :: o1 :: o2 :: o3 :: o4 :: o5 :: o6 :: o7 :: o8 :: o9 :: o10 :: o11 :: o12 :: o13 :: o14 :: o15 :: some v :: Lr) st) : hG Γ k A Q M n z pc (o0 :: o1 :: o2 :: o3 :: o4 :: o5 :: o6 :: o7 :: o8 :: o9 :: o10 :: o11 :: o12 :: o13 :: o14 :: o15 :: y :: Lr) (v :: st) :=
  gx_astore (i := 16) C d hv (by simp) hp rfl hq kk
theorem g_iinc16 {q : Nat} {o0 o1 o2 o3 o4 o5 o6 o7 o8 o9 o10 o11 o12 o13 o14 o15 : Option Value} {Lr : List (Option Value)} {j : Int} {x : Int32} (c : Int32) (C : hC Γ l k own nm cc nL ret rm A) (d : decode cc pc = .ok (.iinc 16 j, 3)) (hc : Int32.ofInt j = c) (hp : hNw o15 = true) (hq : pc + 3 = q) (kk : hG Γ k A Q M n z q (o0 :: o1 :: o2 :: o3 :: o4 :: o5 :: o6 :: o7 :: o8 :: o9 :: o10 :: o11 :: o12 :: o13 :: o14 :: o15 :: some (.int (x + c)) :: Lr) st) : hG Γ k A Q M n z pc (o0 :: o1 :: o2 :: o3 :: o4 :: o5 :: o6 :: o7 :: o8 :: o9 :: o10 :: o11 :: o12 :: o13 :: o14 :: o15 :: some (.int x) :: Lr) st :=
  gx_iinc c C d hc rfl hp rfl hq kk
theorem g_istore17 {q : Nat} {o0 o1 o2 o3 o4 o5 o6 o7 o8 o9 o10 o11 o12 o13 o14 o15 o16 : Option Value} {y : Option Value} {Lr : List (Option Value)} {x : Int32} (C : hC Γ l k own nm cc nL ret rm A) (d : decode cc pc = .ok (.istore 17, 2)) (hp : hNw o16 = true) (hq : pc + 2 = q) (kk : hG Γ k A Q M n z q (o0 :: o1 :: o2 :: o3 :: o4 :: o5 :: o6 :: o7 :: o8 :: o9 :: o10 :: o11 :: o12 :: o13 :: o14 :: o15 :: o16 :: some (.int x) :: Lr) st) : hG Γ k A Q M n z pc (o0 :: o1 :: o2 :: o3 :: o4 :: o5 :: o6 :: o7 :: o8 :: o9 :: o10 :: o11 :: o12 :: o13 :: o14 :: o15 :: o16 :: y :: Lr) (.int x :: st) :=
  gx_istore (i := 17) C d (by simp) hp rfl hq kk
theorem g_astore17 {q : Nat} {o0 o1 o2 o3 o4 o5 o6 o7 o8 o9 o10 o11 o12 o13 o14 o15 o16 : Option Value} {y : Option Value} {Lr : List (Option Value)} {v : Value} (C : hC Γ l k own nm cc nL ret rm A) (d : decode cc pc = .ok (.astore 17, 2)) (hv : hRef v) (hp : hNw o16 = true) (hq : pc + 2 = q) (kk : hG Γ k A Q M n z q (o0 :: o1 :: o2 :: o3 :: o4 :: o5 :: o6 :: o7 :: o8 :: o9 :: o10 :: o11 :: o12 :: o13 :: o14 :: o15 :: o16 :: some v :: Lr) st) : hG Γ k A Q M n z pc (o0 :: o1 :: o2 :: o3 :: o4 :: o5 :: o6 :: o7 :: o8 :: o9 :: o10 :: o11 :: o12 :: o13 :: o14 :: o15 :: o16 :: y :: Lr) (v :: st) :=
  gx_astore (i := 17) C d hv (by simp) hp rfl hq kk
theorem g_iinc17 {q : Nat} {o0 o1 o2 o3 o4 o5 o6 o7 o8 o9 o10 o11 o12 o13 o14 o15 o16 : Option Value} {Lr : List (Option Value)} {j : Int} {x : Int32} (c : Int32) (C : hC Γ l k own nm cc nL ret rm A) (d : decode cc pc = .ok (.iinc 17 j, 3)) (hc : Int32.ofInt j = c) (hp : hNw o16 = true) (hq : pc + 3 = q) (kk : hG Γ k A Q M n z q (o0 :: o1 :: o2 :: o3 :: o4 :: o5 :: o6 :: o7 :: o8 :: o9 :: o10 :: o11 :: o12 :: o13 :: o14 :: o15 :: o16 :: some (.int (x + c)) :: Lr) st) : hG Γ k A Q M n z pc (o0 :: o1 :: o2 :: o3 :: o4 :: o5 :: o6 :: o7 :: o8 :: o9 :: o10 :: o11 :: o12 :: o13 :: o14 :: o15 :: o16 :: some (.int x) :: Lr) st :=
  gx_iinc c C d hc rfl hp rfl hq kk
theorem g_istore18 {q : Nat} {o0 o1 o2 o3 o4 o5 o6 o7 o8 o9 o10 o11 o12 o13 o14 o15 o16 o17 : Option Value} {y : Option Value} {Lr : List (Option Value)} {x : Int32} (C : hC Γ l k own nm cc nL ret rm A) (d : decode cc pc = .ok (.istore 18, 2)) (hp : hNw o17 = true) (hq : pc + 2 = q) (kk : hG Γ k A Q M n z q (o0 :: o1 :: o2 :: o3 :: o4 :: o5 :: o6 :: o7 :: o8 :: o9 :: o10 :: o11 :: o12 :: o13 :: o14 :: o15 :: o16 :: o17 :: some (.int x) :: Lr) st) : hG Γ k A Q M n z pc (o0 :: o1 :: o2 :: o3 :: o4 :: o5 :: o6 :: o7 :: o8 :: o9 :: o10 :: o11 :: o12 :: o13 :: o14 :: o15 :: o16 :: o17 :: y :: Lr) (.int x :: st) :=
  gx_istore (i := 18) C d (by simp) hp rfl hq kk
theorem g_astore18 {q : Nat} {o0 o1 o2 o3 o4 o5 o6 o7 o8 o9 o10 o11 o12 o13 o14 o15 o16 o17 : Option Value} {y : Option Value} {Lr : List (Option Value)} {v : Value} (C : hC Γ l k own nm cc nL ret rm A) (d : decode cc pc = .ok (.astore 18, 2)) (hv : hRef v) (hp : hNw o17 = true) (hq : pc + 2 = q) (kk : hG Γ k A Q M n z q (o0 :: o1 :: o2 :: o3 :: o4 :: o5 :: o6 :: o7 :: o8 :: o9 :: o10 :: o11 :: o12 :: o13 :: o14 :: o15 :: o16 :: o17 :: some v :: Lr) st) : hG Γ k A Q M n z pc (o0 :: o1 :: o2 :: o3 :: o4 :: o5 :: o6 :: o7 :: o8 :: o9 :: o10 :: o11 :: o12 :: o13 :: o14 :: o15 :: o16 :: o17 :: y :: Lr) (v :: st) :=
  gx_astore (i := 18) C d hv (by simp) hp rfl hq kk
theorem g_iinc18 {q : Nat} {o0 o1 o2 o3 o4 o5 o6 o7 o8 o9 o10 o11 o12 o13 o14 o15 o16 o17 : Option Value} {Lr : List (Option Value)} {j : Int} {x : Int32} (c : Int32) (C : hC Γ l k own nm cc nL ret rm A) (d : decode cc pc = .ok (.iinc 18 j, 3)) (hc : Int32.ofInt j = c) (hp : hNw o17 = true) (hq : pc + 3 = q) (kk : hG Γ k A Q M n z q (o0 :: o1 :: o2 :: o3 :: o4 :: o5 :: o6 :: o7 :: o8 :: o9 :: o10 :: o11 :: o12 :: o13 :: o14 :: o15 :: o16 :: o17 :: some (.int (x + c)) :: Lr) st) : hG Γ k A Q M n z pc (o0 :: o1 :: o2 :: o3 :: o4 :: o5 :: o6 :: o7 :: o8 :: o9 :: o10 :: o11 :: o12 :: o13 :: o14 :: o15 :: o16 :: o17 :: some (.int x) :: Lr) st :=
  gx_iinc c C d hc rfl hp rfl hq kk
theorem g_istore19 {q : Nat} {o0 o1 o2 o3 o4 o5 o6 o7 o8 o9 o10 o11 o12 o13 o14 o15 o16 o17 o18 : Option Value} {y : Option Value} {Lr : List (Option Value)} {x : Int32} (C : hC Γ l k own nm cc nL ret rm A) (d : decode cc pc = .ok (.istore 19, 2)) (hp : hNw o18 = true) (hq : pc + 2 = q) (kk : hG Γ k A Q M n z q (o0 :: o1 :: o2 :: o3 :: o4 :: o5 :: o6 :: o7 :: o8 :: o9 :: o10 :: o11 :: o12 :: o13 :: o14 :: o15 :: o16 :: o17 :: o18 :: some (.int x) :: Lr) st) : hG Γ k A Q M n z pc (o0 :: o1 :: o2 :: o3 :: o4 :: o5 :: o6 :: o7 :: o8 :: o9 :: o10 :: o11 :: o12 :: o13 :: o14 :: o15 :: o16 :: o17 :: o18 :: y :: Lr) (.int x :: st) :=
  gx_istore (i := 19) C d (by simp) hp rfl hq kk
theorem g_astore19 {q : Nat} {o0 o1 o2 o3 o4 o5 o6 o7 o8 o9 o10 o11 o12 o13 o14 o15 o16 o17 o18 : Option Value} {y : Option Value} {Lr : List (Option Value)} {v : Value} (C : hC Γ l k own nm cc nL ret rm A) (d : decode cc pc = .ok (.astore 19, 2)) (hv : hRef v) (hp : hNw o18 = true) (hq : pc + 2 = q) (kk : hG Γ k A Q M n z q (o0 :: o1 :: o2 :: o3 :: o4 :: o5 :: o6 :: o7 :: o8 :: o9 :: o10 :: o11 :: o12 :: o13 :: o14 :: o15 :: o16 :: o17 :: o18 :: some v :: Lr) st) : hG Γ k A Q M n z pc (o0 :: o1 :: o2 :: o3 :: o4 :: o5 :: o6 :: o7 :: o8 :: o9 :: o10 :: o11 :: o12 :: o13 :: o14 :: o15 :: o16 :: o17 :: o18 :: y :: Lr) (v :: st) :=
  gx_astore (i := 19) C d hv (by simp) hp rfl hq kk
theorem g_iinc19 {q : Nat} {o0 o1 o2 o3 o4 o5 o6 o7 o8 o9 o10 o11 o12 o13 o14 o15 o16 o17 o18 : Option Value} {Lr : List (Option Value)} {j : Int} {x : Int32} (c : Int32) (C : hC Γ l k own nm cc nL ret rm A) (d : decode cc pc = .ok (.iinc 19 j, 3)) (hc : Int32.ofInt j = c) (hp : hNw o18 = true) (hq : pc + 3 = q) (kk : hG Γ k A Q M n z q (o0 :: o1 :: o2 :: o3 :: o4 :: o5 :: o6 :: o7 :: o8 :: o9 :: o10 :: o11 :: o12 :: o13 :: o14 :: o15 :: o16 :: o17 :: o18 :: some (.int (x + c)) :: Lr) st) : hG Γ k A Q M n z pc (o0 :: o1 :: o2 :: o3 :: o4 :: o5 :: o6 :: o7 :: o8 :: o9 :: o10 :: o11 :: o12 :: o13 :: o14 :: o15 :: o16 :: o17 :: o18 :: some (.int x) :: Lr) st :=
  gx_iinc c C d hc rfl hp rfl hq kk
theorem g_istore20 {q : Nat} {o0 o1 o2 o3 o4 o5 o6 o7 o8 o9 o10 o11 o12 o13 o14 o15 o16 o17 o18 o19 : Option Value} {y : Option Value} {Lr : List (Option Value)} {x : Int32} (C : hC Γ l k own nm cc nL ret rm A) (d : decode cc pc = .ok (.istore 20, 2)) (hp : hNw o19 = true) (hq : pc + 2 = q) (kk : hG Γ k A Q M n z q (o0 :: o1 :: o2 :: o3 :: o4 :: o5 :: o6 :: o7 :: o8 :: o9 :: o10 :: o11 :: o12 :: o13 :: o14 :: o15 :: o16 :: o17 :: o18 :: o19 :: some (.int x) :: Lr) st) : hG Γ k A Q M n z pc (o0 :: o1 :: o2 :: o3 :: o4 :: o5 :: o6 :: o7 :: o8 :: o9 :: o10 :: o11 :: o12 :: o13 :: o14 :: o15 :: o16 :: o17 :: o18 :: o19 :: y :: Lr) (.int x :: st) :=
  gx_istore (i := 20) C d (by simp) hp rfl hq kk
theorem g_astore20 {q : Nat} {o0 o1 o2 o3 o4 o5 o6 o7 o8 o9 o10 o11 o12 o13 o14 o15 o16 o17 o18 o19 : Option Value} {y : Option Value} {Lr : List (Option Value)} {v : Value} (C : hC Γ l k own nm cc nL ret rm A) (d : decode cc pc = .ok (.astore 20, 2)) (hv : hRef v) (hp : hNw o19 = true) (hq : pc + 2 = q) (kk : hG Γ k A Q M n z q (o0 :: o1 :: o2 :: o3 :: o4 :: o5 :: o6 :: o7 :: o8 :: o9 :: o10 :: o11 :: o12 :: o13 :: o14 :: o15 :: o16 :: o17 :: o18 :: o19 :: some v :: Lr) st) : hG Γ k A Q M n z pc (o0 :: o1 :: o2 :: o3 :: o4 :: o5 :: o6 :: o7 :: o8 :: o9 :: o10 :: o11 :: o12 :: o13 :: o14 :: o15 :: o16 :: o17 :: o18 :: o19 :: y :: Lr) (v :: st) :=
  gx_astore (i := 20) C d hv (by simp) hp rfl hq kk
theorem g_iinc20 {q : Nat} {o0 o1 o2 o3 o4 o5 o6 o7 o8 o9 o10 o11 o12 o13 o14 o15 o16 o17 o18 o19 : Option Value} {Lr : List (Option Value)} {j : Int} {x : Int32} (c : Int32) (C : hC Γ l k own nm cc nL ret rm A) (d : decode cc pc = .ok (.iinc 20 j, 3)) (hc : Int32.ofInt j = c) (hp : hNw o19 = true) (hq : pc + 3 = q) (kk : hG Γ k A Q M n z q (o0 :: o1 :: o2 :: o3 :: o4 :: o5 :: o6 :: o7 :: o8 :: o9 :: o10 :: o11 :: o12 :: o13 :: o14 :: o15 :: o16 :: o17 :: o18 :: o19 :: some (.int (x + c)) :: Lr) st) : hG Γ k A Q M n z pc (o0 :: o1 :: o2 :: o3 :: o4 :: o5 :: o6 :: o7 :: o8 :: o9 :: o10 :: o11 :: o12 :: o13 :: o14 :: o15 :: o16 :: o17 :: o18 :: o19 :: some (.int x) :: Lr) st :=
  gx_iinc c C d hc rfl hp rfl hq kk
theorem g_istore21 {q : Nat} {o0 o1 o2 o3 o4 o5 o6 o7 o8 o9 o10 o11 o12 o13 o14 o15 o16 o17 o18 o19 o20 : Option Value} {y : Option Value} {Lr : List (Option Value)} {x : Int32} (C : hC Γ l k own nm cc nL ret rm A) (d : decode cc pc = .ok (.istore 21, 2)) (hp : hNw o20 = true) (hq : pc + 2 = q) (kk : hG Γ k A Q M n z q (o0 :: o1 :: o2 :: o3 :: o4 :: o5 :: o6 :: o7 :: o8 :: o9 :: o10 :: o11 :: o12 :: o13 :: o14 :: o15 :: o16 :: o17 :: o18 :: o19 :: o20 :: some (.int x) :: Lr) st) : hG Γ k A Q M n z pc (o0 :: o1 :: o2 :: o3 :: o4 :: o5 :: o6 :: o7 :: o8 :: o9 :: o10 :: o11 :: o12 :: o13 :: o14 :: o15 :: o16 :: o17 :: o18 :: o19 :: o20 :: y :: Lr) (.int x :: st) :=
  gx_istore (i := 21) C d (by simp) hp rfl hq kk
theorem g_astore21 {q : Nat} {o0 o1 o2 o3 o4 o5 o6 o7 o8 o9 o10 o11 o12 o13 o14 o15 o16 o17 o18 o19 o20 : Option Value} {y : Option Value} {Lr : List (Option Value)} {v : Value} (C : hC Γ l k own nm cc nL ret rm A) (d : decode cc pc = .ok (.astore 21, 2)) (hv : hRef v) (hp : hNw o20 = true) (hq : pc + 2 = q) (kk : hG Γ k A Q M n z q (o0 :: o1 :: o2 :: o3 :: o4 :: o5 :: o6 :: o7 :: o8 :: o9 :: o10 :: o11 :: o12 :: o13 :: o14 :: o15 :: o16 :: o17 :: o18 :: o19 :: o20 :: some v :: Lr) st) : hG Γ k A Q M n z pc (o0 :: o1 :: o2 :: o3 :: o4 :: o5 :: o6 :: o7 :: o8 :: o9 :: o10 :: o11 :: o12 :: o13 :: o14 :: o15 :: o16 :: o17 :: o18 :: o19 :: o20 :: y :: Lr) (v :: st) :=
  gx_astore (i := 21) C d hv (by simp) hp rfl hq kk
theorem g_iinc21 {q : Nat} {o0 o1 o2 o3 o4 o5 o6 o7 o8 o9 o10 o11 o12 o13 o14 o15 o16 o17 o18 o19 o20 : Option Value} {Lr : List (Option Value)} {j : Int} {x : Int32} (c : Int32) (C : hC Γ l k own nm cc nL ret rm A) (d : decode cc pc = .ok (.iinc 21 j, 3)) (hc : Int32.ofInt j = c) (hp : hNw o20 = true) (hq : pc + 3 = q) (kk : hG Γ k A Q M n z q (o0 :: o1 :: o2 :: o3 :: o4 :: o5 :: o6 :: o7 :: o8 :: o9 :: o10 :: o11 :: o12 :: o13 :: o14 :: o15 :: o16 :: o17 :: o18 :: o19 :: o20 :: some (.int (x + c)) :: Lr) st) : hG Γ k A Q M n z pc (o0 :: o1 :: o2 :: o3 :: o4 :: o5 :: o6 :: o7 :: o8 :: o9 :: o10 :: o11 :: o12 :: o13 :: o14 :: o15 :: o16 :: o17 :: o18 :: o19 :: o20 :: some (.int x) :: Lr) st :=
  gx_iinc c C d hc rfl hp rfl hq kk
theorem g_istore22 {q : Nat} {o0 o1 o2 o3 o4 o5 o6 o7 o8 o9 o10 o11 o12 o13 o14 o15 o16 o17 o18 o19 o20 o21 : Option Value} {y : Option Value} {Lr : List (Option Value)} {x : Int32} (C : hC Γ l k own nm cc nL ret rm A) (d : decode cc pc = .ok (.istore 22, 2)) (hp : hNw o21 = true) (hq : pc + 2 = q) (kk : hG Γ k A Q M n z q (o0 :: o1 :: o2 :: o3 :: o4 :: o5 :: o6 :: o7 :: o8 :: o9 :: o10 :: o11 :: o12 :: o13 :: o14 :: o15 :: o16 :: o17 :: o18 :: o19 :: o20 :: o21 :: some (.int x) :: Lr) st) : hG Γ k A Q M n z pc (o0 :: o1 :: o2 :: o3 :: o4 :: o5 :: o6 :: o7 :: o8 :: o9 :: o10 :: o11 :: o12 :: o13 :: o14 :: o15 :: o16 :: o17 :: o18 :: o19 :: o20 :: o21 :: y :: Lr) (.int x :: st) :=
  gx_istore (i := 22) C d (by simp) hp rfl hq kk
theorem g_astore22 {q : Nat} {o0 o1 o2 o3 o4 o5 o6 o7 o8 o9 o10 o11 o12 o13 o14 o15 o16 o17 o18 o19 o20 o21 : Option Value} {y : Option Value} {Lr : List (Option Value)} {v : Value} (C : hC Γ l k own nm cc nL ret rm A) (d : decode cc pc = .ok (.astore 22, 2)) (hv : hRef v) (hp : hNw o21 = true) (hq : pc + 2 = q) (kk : hG Γ k A Q M n z q (o0 :: o1 :: o2 :: o3 :: o4 :: o5 :: o6 :: o7 :: o8 :: o9 :: o10 :: o11 :: o12 :: o13 :: o14 :: o15 :: o16 :: o17 :: o18 :: o19 :: o20 :: o21 :: some v :: Lr) st) : hG Γ k A Q M n z pc (o0 :: o1 :: o2 :: o3 :: o4 :: o5 :: o6 :: o7 :: o8 :: o9 :: o10 :: o11 :: o12 :: o13 :: o14 :: o15 :: o16 :: o17 :: o18 :: o19 :: o20 :: o21 :: y :: Lr) (v :: st) :=
  gx_astore (i := 22) C d hv (by simp) hp rfl hq kk
theorem g_iinc22 {q : Nat} {o0 o1 o2 o3 o4 o5 o6 o7 o8 o9 o10 o11 o12 o13 o14 o15 o16 o17 o18 o19 o20 o21 : Option Value} {Lr : List (Option Value)} {j : Int} {x : Int32} (c : Int32) (C : hC Γ l k own nm cc nL ret rm A) (d : decode cc pc = .ok (.iinc 22 j, 3)) (hc : Int32.ofInt j = c) (hp : hNw o21 = true) (hq : pc + 3 = q) (kk : hG Γ k A Q M n z q (o0 :: o1 :: o2 :: o3 :: o4 :: o5 :: o6 :: o7 :: o8 :: o9 :: o10 :: o11 :: o12 :: o13 :: o14 :: o15 :: o16 :: o17 :: o18 :: o19 :: o20 :: o21 :: some (.int (x + c)) :: Lr) st) : hG Γ k A Q M n z pc (o0 :: o1 :: o2 :: o3 :: o4 :: o5 :: o6 :: o7 :: o8 :: o9 :: o10 :: o11 :: o12 :: o13 :: o14 :: o15 :: o16 :: o17 :: o18 :: o19 :: o20 :: o21 :: some (.int x) :: Lr) st :=
  gx_iinc c C d hc rfl hp rfl hq kk
theorem g_istore23 {q : Nat} {o0 o1 o2 o3 o4 o5 o6 o7 o8 o9 o10 o11 o12 o13 o14 o15 o16 o17 o18 o19 o20 o21 o22 : Option Value} {y : Option Value} {Lr : List (Option Value)} {x : Int32} (C : hC Γ l k own nm cc nL ret rm A) (d : decode cc pc = .ok (.istore 23, 2)) (hp : hNw o22 = true) (hq : pc + 2 = q) (kk : hG Γ k A Q M n z q (o0 :: o1 :: o2 :: o3 :: o4 :: o5 :: o6 :: o7 :: o8 :: o9 :: o10 :: o11 :: o12 :: o13 :: o14 :: o15 :: o16 :: o17 :: o18 :: o19 :: o20 :: o21 :: o22 :: some (.int x) :: Lr) st) : hG Γ k A Q M n z pc (o0 :: o1 :: o2 :: o3 :: o4 :: o5 :: o6 :: o7 :: o8 :: o9 :: o10 :: o11 :: o12 :: o13 :: o14 :: o15 :: o16 :: o17 :: o18 :: o19 :: o20 :: o21 :: o22 :: y :: Lr) (.int x :: st) :=
  gx_istore (i := 23) C d (by simp) hp rfl hq kk
theorem g_astore23 {q : Nat} {o0 o1 o2 o3 o4 o5 o6 o7 o8 o9 o10 o11 o12 o13 o14 o15 o16 o17 o18 o19 o20 o21 o22 : Option Value} {y : Option Value} {Lr : List (Option Value)} {v : Value} (C : hC Γ l k own nm cc nL ret rm A) (d : decode cc pc = .ok (.astore 23, 2)) (hv : hRef v) (hp : hNw o22 = true) (hq : pc + 2 = q) (kk : hG Γ k A Q M n z q (o0 :: o1 :: o2 :: o3 :: o4 :: o5 :: o6 :: o7 :: o8 :: o9 :: o10 :: o11 :: o12 :: o13 :: o14 :: o15 :: o16 :: o17 :: o18 :: o19 :: o20 :: o21 :: o22 :: some v :: Lr) st) : hG Γ k A Q M n z pc (o0 :: o1 :: o2 :: o3 :: o4 :: o5 :: o6 :: o7 :: o8 :: o9 :: o10 :: o11 :: o12 :: o13 :: o14 :: o15 :: o16 :: o17 :: o18 :: o19 :: o20 :: o21 :: o22 :: y :: Lr) (v :: st) :=
  gx_astore (i := 23) C d hv (by simp) hp rfl hq kk
theorem g_iinc23 {q : Nat} {o0 o1 o2 o3 o4 o5 o6 o7 o8 o9 o10 o11 o12 o13 o14 o15 o16 o17 o18 o19 o20 o21 o22 : Option Value} {Lr : List (Option Value)} {j : Int} {x : Int32} (c : Int32) (C : hC Γ l k own nm cc nL ret rm A) (d : decode cc pc = .ok (.iinc 23 j, 3)) (hc : Int32.ofInt j = c) (hp : hNw o22 = true) (hq : pc + 3 = q) (kk : hG Γ k A Q M n z q (o0 :: o1 :: o2 :: o3 :: o4 :: o5 :: o6 :: o7 :: o8 :: o9 :: o10 :: o11 :: o12 :: o13 :: o14 :: o15 :: o16 :: o17 :: o18 :: o19 :: o20 :: o21 :: o22 :: some (.int (x + c)) :: Lr) st) : hG Γ k A Q M n z pc (o0 :: o1 :: o2 :: o3 :: o4 :: o5 :: o6 :: o7 :: o8 :: o9 :: o10 :: o11 :: o12 :: o13 :: o14 :: o15 :: o16 :: o17 :: o18 :: o19 :: o20 :: o21 :: o22 :: some (.int x) :: Lr) st :=
  gx_iinc c C d hc rfl hp rfl hq kk
theorem g_iadd {q : Nat} {x y : Int32} (C : hC Γ l k own nm cc nL ret rm A) (d : decode cc pc = .ok (.iadd, 1))  (hq : pc + 1 = q) (kk : hG Γ k A Q M n z q L (.int (x + y) :: st)) : hG Γ k A Q M n z pc L (.int y :: .int x :: st) := by
  subst hq
  intro H locs ls h1 h2 h3 h4
  exact lv_iadd C.ex C.cd d (kk H locs ls h1 h2 h3 h4)
theorem g_isub {q : Nat} {x y : Int32} (C : hC Γ l k own nm cc nL ret rm A) (d : decode cc pc = .ok (.isub, 1))  (hq : pc + 1 = q) (kk : hG Γ k A Q M n z q L (.int (x - y) :: st)) : hG Γ k A Q M n z pc L (.int y :: .int x :: st) := by
  subst hq
  intro H locs ls h1 h2 h3 h4
  exact lv_isub C.ex C.cd d (kk H locs ls h1 h2 h3 h4)
theorem g_imul {q : Nat} {x y : Int32} (C : hC Γ l k own nm cc nL ret rm A) (d : decode cc pc = .ok (.imul, 1))  (hq : pc + 1 = q) (kk : hG Γ k A Q M n z q L (.int (x * y) :: st)) : hG Γ k A Q M n z pc L (.int y :: .int x :: st) := by
  subst hq
  intro H locs ls h1 h2 h3 h4
  exact lv_imul C.ex C.cd d (kk H locs ls h1 h2 h3 h4)
theorem g_iand {q : Nat} {x y : Int32} (C : hC Γ l k own nm cc nL ret rm A) (d : decode cc pc = .ok (.iand, 1))  (hq : pc + 1 = q) (kk : hG Γ k A Q M n z q L (.int (x &&& y) :: st)) : hG Γ k A Q M n z pc L (.int y :: .int x :: st) := by
  subst hq
  intro H locs ls h1 h2 h3 h4
  exact lv_iand C.ex C.cd d (kk H locs ls h1 h2 h3 h4)
theorem g_idiv {q : Nat} {x y : Int32} (C : hC Γ l k own nm cc nL ret rm A) (d : decode cc pc = .ok (.idiv, 1)) (hne : ¬ y = 0) (hq : pc + 1 = q) (kk : hG Γ k A Q M n z q L (.int (x / y) :: st)) : hG Γ k A Q M n z pc L (.int y :: .int x :: st) := by
  subst hq
  intro H locs ls h1 h2 h3 h4
  exact lv_idiv C.ex C.cd d hne (kk H locs ls h1 h2 h3 h4)
/-- remainder -/
theorem g_irem {q : Nat} {x y : Int32} (C : hC Γ l k own nm cc nL ret rm A) (d : decode cc pc = .ok (.irem, 1)) (hne : ¬ y = 0) (hq : pc + 1 = q) (kk : hG Γ k A Q M n z q L (.int (x - x / y * y) :: st)) : hG Γ k A Q M n z pc L (.int y :: .int x :: st) := by
  subst hq
  intro H locs ls h1 h2 h3 h4
  exact lv_irem C.ex C.cd d hne (kk H locs ls h1 h2 h3 h4)
theorem g_ladd {q : Nat} {x y : Int64} (C : hC Γ l k own nm cc nL ret rm A) (d : decode cc pc = .ok (.ladd, 1))  (hq : pc + 1 = q) (kk : hG Γ k A Q M n z q L (.long (x + y) :: st)) : hG Γ k A Q M n z pc L (.long y :: .long x :: st) := by
  subst hq
  intro H locs ls h1 h2 h3 h4
  exact lv_ladd C.ex C.cd d (kk H locs ls h1 h2 h3 h4)
theorem g_lmul {q : Nat} {x y : Int64} (C : hC Γ l k own nm cc nL ret rm A) (d : decode cc pc = .ok (.lmul, 1))  (hq : pc + 1 = q) (kk : hG Γ k A Q M n z q L (.long (x * y) :: st)) : hG Γ k A Q M n z pc L (.long y :: .long x :: st) := by
  subst hq
  intro H locs ls h1 h2 h3 h4
  exact lv_lmul C.ex C.cd d (kk H locs ls h1 h2 h3 h4)
theorem g_i2l {q : Nat} {x : Int32} (C : hC Γ l k own nm cc nL ret rm A) (d : decode cc pc = .ok (.i2l, 1))  (hq : pc + 1 = q) (kk : hG Γ k A Q M n z q L (.long x.toInt64 :: st)) : hG Γ k A Q M n z pc L (.int x :: st) := by
  subst hq
  intro H locs ls h1 h2 h3 h4
  exact lv_i2l C.ex C.cd d rfl (kk H locs ls h1 h2 h3 h4)
theorem g_ishr {q : Nat} {x y : Int32} (C : hC Γ l k own nm cc nL ret rm A) (d : decode cc pc = .ok (.ishr, 1))  (hq : pc + 1 = q) (kk : hG Γ k A Q M n z q L (.int (x >>> (y &&& 31)) :: st)) : hG Γ k A Q M n z pc L (.int y :: .int x :: st) := by
  subst hq
  intro H locs ls h1 h2 h3 h4
  exact lv_ishr C.ex C.cd d (kk H locs ls h1 h2 h3 h4)
theorem g_i2d {q : Nat} {x : Int32} (C : hC Γ l k own nm cc nL ret rm A) (d : decode cc pc = .ok (.i2d, 1))  (hq : pc + 1 = q) (kk : hG Γ k A Q M n z q L (.double (FP.i2d x) :: st)) : hG Γ k A Q M n z pc L (.int x :: st) := by
  subst hq
  intro H locs ls h1 h2 h3 h4
  exact lv_i2d C.ex C.cd d (kk H locs ls h1 h2 h3 h4)
theorem g_dcmp {q : Nat} {x y : UInt64} {op : CmpOp} (C : hC Γ l k own nm cc nL ret rm A) (d : decode cc pc = .ok (.dcmp op, 1))  (hq : pc + 1 = q) (kk : hG Γ k A Q M n z q L (.int (Op.cmpValue (FP.dcmp x y) op) :: st)) : hG Γ k A Q M n z pc L (.double y :: .double x :: st) := by
  subst hq
  intro H locs ls h1 h2 h3 h4
  exact lv_dcmp C.ex C.cd d (kk H locs ls h1 h2 h3 h4)
theorem g_lcmp {q : Nat} {x y : Int64} (C : hC Γ l k own nm cc nL ret rm A) (d : decode cc pc = .ok (.lcmp, 1))  (hq : pc + 1 = q) (kk : hG Γ k A Q M n z q L (.int (lg_cmp x y) :: st)) : hG Γ k A Q M n z pc L (.long y :: .long x :: st) := by
  subst hq
  intro H locs ls h1 h2 h3 h4
  exact W.lcmp C.ex C.cd d (kk H locs ls h1 h2 h3 h4)
theorem g_dup {q : Nat} {v : Value} (C : hC Γ l k own nm cc nL ret rm A) (d : decode cc pc = .ok (.dup, 1)) (hv : v.category = 1) (hq : pc + 1 = q) (kk : hG Γ k A Q M n z q L (v :: v :: st)) : hG Γ k A Q M n z pc L (v :: st) := by
  subst hq
  intro H locs ls h1 h2 h3 h4
  exact lv_dup C.ex C.cd d hv (kk H locs ls h1 h2 h3 h4)
theorem g_dup2 {q : Nat} {v w : Value} (C : hC Γ l k own nm cc nL ret rm A) (d : decode cc pc = .ok (.dup2, 1)) (hv : v.category = 1) (hw : w.category = 1) (hq : pc + 1 = q) (kk : hG Γ k A Q M n z q L (v :: w :: v :: w :: st)) : hG Γ k A Q M n z pc L (v :: w :: st) := by
  subst hq
  intro H locs ls h1 h2 h3 h4
  exact lv_dup2_11 C.ex C.cd d hv hw (kk H locs ls h1 h2 h3 h4)
theorem g_dup_x1 {q : Nat} {v w : Value} (C : hC Γ l k own nm cc nL ret rm A) (d : decode cc pc = .ok (.dup_x1, 1)) (hv : v.category = 1) (hw : w.category = 1) (hq : pc + 1 = q) (kk : hG Γ k A Q M n z q L (v :: w :: v :: st)) : hG Γ k A Q M n z pc L (v :: w :: st) := by
  subst hq
  intro H locs ls h1 h2 h3 h4
  exact lv_dup_x1 C.ex C.cd d hv hw (kk H locs ls h1 h2 h3 h4)
theorem g_pop {q : Nat} {v : Value} (C : hC Γ l k own nm cc nL ret rm A) (d : decode cc pc = .ok (.pop, 1)) (hv : v.category = 1) (hq : pc + 1 = q) (kk : hG Γ k A Q M n z q L (st)) : hG Γ k A Q M n z pc L (v :: st) := by
  subst hq
  intro H locs ls h1 h2 h3 h4
  exact lv_pop C.ex C.cd d hv (kk H locs ls h1 h2 h3 h4)
theorem g_if_eq {t q : Nat} {off : Int} {x : Int32} (C : hC Γ l k own nm cc nL ret rm A) (d : decode cc pc = .ok (.ifCond .eq off, 3)) (ht : (pc : Int) + off = (t : Int)) (hq : pc + 3 = q) (kt : x = 0 → hG Γ k A Q M n z t L st) (kf : ¬ x = 0 → hG Γ k A Q M n z q L st) : hG Γ k A Q M n z pc L (.int x :: st) := by
  subst hq
  intro H locs ls h1 h2 h3 h4
  exact lv_if_eq C.ex C.cd d ht (fun h => kt h H locs ls h1 h2 h3 h4) (fun h => kf h H locs ls h1 h2 h3 h4)
theorem g_icmp_eq {t q : Nat} {off : Int} {x y : Int32} (C : hC Γ l k own nm cc nL ret rm A) (d : decode cc pc = .ok (.if_icmp .eq off, 3)) (ht : (pc : Int) + off = (t : Int)) (hq : pc + 3 = q) (kt : x = y → hG Γ k A Q M n z t L st) (kf : ¬ x = y → hG Γ k A Q M n z q L st) : hG Γ k A Q M n z pc L (.int y :: .int x :: st) := by
  subst hq
  intro H locs ls h1 h2 h3 h4
  exact lv_icmp_eq C.ex C.cd d ht (fun h => kt h H locs ls h1 h2 h3 h4) (fun h => kf h H locs ls h1 h2 h3 h4)
theorem g_if_ne {t q : Nat} {off : Int} {x : Int32} (C : hC Γ l k own nm cc nL ret rm A) (d : decode cc pc = .ok (.ifCond .ne off, 3)) (ht : (pc : Int) + off = (t : Int)) (hq : pc + 3 = q) (kt : ¬ x = 0 → hG Γ k A Q M n z t L st) (kf : x = 0 → hG Γ k A Q M n z q L st) : hG Γ k A Q M n z pc L (.int x :: st) := by
  subst hq
  intro H locs ls h1 h2 h3 h4
  exact lv_if_ne C.ex C.cd d ht (fun h => kt h H locs ls h1 h2 h3 h4) (fun h => kf h H locs ls h1 h2 h3 h4)
theorem g_icmp_ne {t q : Nat} {off : Int} {x y : Int32} (C : hC Γ l k own nm cc nL ret rm A) (d : decode cc pc = .ok (.if_icmp .ne off, 3)) (ht : (pc : Int) + off = (t : Int)) (hq : pc + 3 = q) (kt : ¬ x = y → hG Γ k A Q M n z t L st) (kf : x = y → hG Γ k A Q M n z q L st) : hG Γ k A Q M n z pc L (.int y :: .int x :: st) := by
  subst hq
  intro H locs ls h1 h2 h3 h4
  exact lv_icmp_ne C.ex C.cd d ht (fun h => kt h H locs ls h1 h2 h3 h4) (fun h => kf h H locs ls h1 h2 h3 h4)
theorem g_if_lt {t q : Nat} {off : Int} {x : Int32} (C : hC Γ l k own nm cc nL ret rm A) (d : decode cc pc = .ok (.ifCond .lt off, 3)) (ht : (pc : Int) + off = (t : Int)) (hq : pc + 3 = q) (kt : x < 0 → hG Γ k A Q M n z t L st) (kf : ¬ x < 0 → hG Γ k A Q M n z q L st) : hG Γ k A Q M n z pc L (.int x :: st) := by
  subst hq
  intro H locs ls h1 h2 h3 h4
  exact lv_if_lt C.ex C.cd d ht (fun h => kt h H locs ls h1 h2 h3 h4) (fun h => kf h H locs ls h1 h2 h3 h4)
theorem g_icmp_lt {t q : Nat} {off : Int} {x y : Int32} (C : hC Γ l k own nm cc nL ret rm A) (d : decode cc pc = .ok (.if_icmp .lt off, 3)) (ht : (pc : Int) + off = (t : Int)) (hq : pc + 3 = q) (kt : x < y → hG Γ k A Q M n z t L st) (kf : ¬ x < y → hG Γ k A Q M n z q L st) : hG Γ k A Q M n z pc L (.int y :: .int x :: st) := by
  subst hq
  intro H locs ls h1 h2 h3 h4
  exact lv_icmp_lt C.ex C.cd d ht (fun h => kt h H locs ls h1 h2 h3 h4) (fun h => kf h H locs ls h1 h2 h3 h4)
theorem g_if_ge {t q : Nat} {off : Int} {x : Int32} (C : hC Γ l k own nm cc nL ret rm A) (d : decode cc pc = .ok (.ifCond .ge off, 3)) (ht : (pc : Int) + off = (t : Int)) (hq : pc + 3 = q) (kt : 0 ≤ x → hG Γ k A Q M n z t L st) (kf : ¬ 0 ≤ x → hG Γ k A Q M n z q L st) : hG Γ k A Q M n z pc L (.int x :: st) := by
  subst hq
  intro H locs ls h1 h2 h3 h4
  exact lv_if_ge C.ex C.cd d ht (fun h => kt h H locs ls h1 h2 h3 h4) (fun h => kf h H locs ls h1 h2 h3 h4)
theorem g_icmp_ge {t q : Nat} {off : Int} {x y : Int32} (C : hC Γ l k own nm cc nL ret rm A) (d : decode cc pc = .ok (.if_icmp .ge off, 3)) (ht : (pc : Int) + off = (t : Int)) (hq : pc + 3 = q) (kt : y ≤ x → hG Γ k A Q M n z t L st) (kf : ¬ y ≤ x → hG Γ k A Q M n z q L st) : hG Γ k A Q M n z pc L (.int y :: .int x :: st) := by
  subst hq
  intro H locs ls h1 h2 h3 h4
  exact lv_icmp_ge C.ex C.cd d ht (fun h => kt h H locs ls h1 h2 h3 h4) (fun h => kf h H locs ls h1 h2 h3 h4)
theorem g_if_gt {t q : Nat} {off : Int} {x : Int32} (C : hC Γ l k own nm cc nL ret rm A) (d : decode cc pc = .ok (.ifCond .gt off, 3)) (ht : (pc : Int) + off = (t : Int)) (hq : pc + 3 = q) (kt : 0 < x → hG Γ k A Q M n z t L st) (kf : ¬ 0 < x → hG Γ k A Q M n z q L st) : hG Γ k A Q M n z pc L (.int x :: st) := by
  subst hq
  intro H locs ls h1 h2 h3 h4
  exact lv_if_gt C.ex C.cd d ht (fun h => kt h H locs ls h1 h2 h3 h4) (fun h => kf h H locs ls h1 h2 h3 h4)
theorem g_icmp_gt {t q : Nat} {off : Int} {x y : Int32} (C : hC Γ l k own nm cc nL ret rm A) (d : decode cc pc = .ok (.if_icmp .gt off, 3)) (ht : (pc : Int) + off = (t : Int)) (hq : pc + 3 = q) (kt : y < x → hG Γ k A Q M n z t L st) (kf : ¬ y < x → hG Γ k A Q M n z q L st) : hG Γ k A Q M n z pc L (.int y :: .int x :: st) := by
  subst hq
  intro H locs ls h1 h2 h3 h4
  exact lv_icmp_gt C.ex C.cd d ht (fun h => kt h H locs ls h1 h2 h3 h4) (fun h => kf h H locs ls h1 h2 h3 h4)
theorem g_if_le {t q : Nat} {off : Int} {x : Int32} (C : hC Γ l k own nm cc nL ret rm A) (d : decode cc pc = .ok (.ifCond .le off, 3)) (ht : (pc : Int) + off = (t : Int)) (hq : pc + 3 = q) (kt : x ≤ 0 → hG Γ k A Q M n z t L st) (kf : ¬ x ≤ 0 → hG Γ k A Q M n z q L st) : hG Γ k A Q M n z pc L (.int x :: st) := by
  subst hq
  intro H locs ls h1 h2 h3 h4
  exact lv_if_le C.ex C.cd d ht (fun h => kt h H locs ls h1 h2 h3 h4) (fun h => kf h H locs ls h1 h2 h3 h4)
theorem g_icmp_le {t q : Nat} {off : Int} {x y : Int32} (C : hC Γ l k own nm cc nL ret rm A) (d : decode cc pc = .ok (.if_icmp .le off, 3)) (ht : (pc : Int) + off = (t : Int)) (hq : pc + 3 = q) (kt : x ≤ y → hG Γ k A Q M n z t L st) (kf : ¬ x ≤ y → hG Γ k A Q M n z q L st) : hG Γ k A Q M n z pc L (.int y :: .int x :: st) := by
  subst hq
  intro H locs ls h1 h2 h3 h4
  exact lv_icmp_le C.ex C.cd d ht (fun h => kt h H locs ls h1 h2 h3 h4) (fun h => kf h H locs ls h1 h2 h3 h4)
/-- a truth value as the machine has it -/
def bI (b : Bool) : Int32 := if b then 1 else 0
theorem bI_0 {b : Bool} : bI b = 0 ↔ b = false := by cases b <;> decide
theorem bI_n {b : Bool} : ¬ bI b = 0 ↔ b = true := by cases b <;> decide
theorem g_ifB_eq {t q : Nat} {off : Int} {b : Bool} (C : hC Γ l k own nm cc nL ret rm A) (d : decode cc pc = .ok (.ifCond .eq off, 3)) (ht : (pc : Int) + off = (t : Int)) (hq : pc + 3 = q) (kt : b = false → hG Γ k A Q M n z t L st) (kf : b = true → hG Γ k A Q M n z q L st) : hG Γ k A Q M n z pc L (.int (bI b) :: st) :=
  g_if_eq C d ht hq (fun h => kt (bI_0.mp h)) (fun h => kf (bI_n.mp h))
theorem g_ifB_ne {t q : Nat} {off : Int} {b : Bool} (C : hC Γ l k own nm cc nL ret rm A) (d : decode cc pc = .ok (.ifCond .ne off, 3)) (ht : (pc : Int) + off = (t : Int)) (hq : pc + 3 = q) (kt : b = true → hG Γ k A Q M n z t L st) (kf : b = false → hG Γ k A Q M n z q L st) : hG Γ k A Q M n z pc L (.int (bI b) :: st) :=
  g_if_ne C d ht hq (fun h => kt (bI_n.mp h)) (fun h => kf (bI_0.mp h))
theorem g_goto {t : Nat} {off : Int} (C : hC Γ l k own nm cc nL ret rm A) (d : decode cc pc = .ok (.goto off, 3)) (ht : (pc : Int) + off = (t : Int)) (kk : hG Γ k A Q M n z t L st) : hG Γ k A Q M n z pc L st :=
  fun H locs ls h1 h2 h3 h4 => lv_goto C.ex C.cd d ht (kk H locs ls h1 h2 h3 h4)
theorem g_ifnullR {q : Nat} {off : Int} {a : Nat} (C : hC Γ l k own nm cc nL ret rm A) (d : decode cc pc = .ok (.ifnull off, 3)) (hq : pc + 3 = q) (kk : hG Γ k A Q M n z q L st) : hG Γ k A Q M n z pc L (.ref a :: st) := by
  subst hq
  exact fun H locs ls h1 h2 h3 h4 => lv_ifnull C.ex C.cd d (kk H locs ls h1 h2 h3 h4)
theorem g_ifnullN {t : Nat} {off : Int} (C : hC Γ l k own nm cc nL ret rm A) (d : decode cc pc = .ok (.ifnull off, 3)) (ht : (pc : Int) + off = (t : Int)) (kk : hG Γ k A Q M n z t L st) : hG Γ k A Q M n z pc L (.null :: st) :=
  fun H locs ls h1 h2 h3 h4 => lv_ifnullN C.ex C.cd d ht (kk H locs ls h1 h2 h3 h4)
theorem g_ifnonnullR {t : Nat} {off : Int} {a : Nat} (C : hC Γ l k own nm cc nL ret rm A) (d : decode cc pc = .ok (.ifnonnull off, 3)) (ht : (pc : Int) + off = (t : Int)) (kk : hG Γ k A Q M n z t L st) : hG Γ k A Q M n z pc L (.ref a :: st) :=
  fun H locs ls h1 h2 h3 h4 => lv_ifnonnull C.ex C.cd d ht (kk H locs ls h1 h2 h3 h4)
theorem g_ifnonnullN {q : Nat} {off : Int} (C : hC Γ l k own nm cc nL ret rm A) (d : decode cc pc = .ok (.ifnonnull off, 3)) (hq : pc + 3 = q) (kk : hG Γ k A Q M n z q L st) : hG Γ k A Q M n z pc L (.null :: st) := by
  subst hq
  exact fun H locs ls h1 h2 h3 h4 => lv_ifnonnullN C.ex C.cd d (kk H locs ls h1 h2 h3 h4)
theorem g_ifnull {t q : Nat} {off : Int} {o : Option Nat} (C : hC Γ l k own nm cc nL ret rm A) (d : decode cc pc = .ok (.ifnull off, 3)) (ht : (pc : Int) + off = (t : Int)) (hq : pc + 3 = q) (kt : o = none → hG Γ k A Q M n z t L st) (kf : ∀ a, o = some a → hG Γ k A Q M n z q L st) : hG Γ k A Q M n z pc L (va_rf o :: st) := by
  cases o with
  | none => exact g_ifnullN C d ht (kt rfl)
  | some a => exact g_ifnullR C d hq (kf a rfl)
theorem g_ifnonnull {t q : Nat} {off : Int} {o : Option Nat} (C : hC Γ l k own nm cc nL ret rm A) (d : decode cc pc = .ok (.ifnonnull off, 3)) (ht : (pc : Int) + off = (t : Int)) (hq : pc + 3 = q) (kt : ∀ a, o = some a → hG Γ k A Q M n z t L st) (kf : o = none → hG Γ k A Q M n z q L st) : hG Γ k A Q M n z pc L (va_rf o :: st) := by
  cases o with
  | none => exact g_ifnonnullN C d hq (kf rfl)
  | some a => exact g_ifnonnullR C d ht (kt a rfl)
theorem g_acmp_ne {t q : Nat} {off : Int} {rx ry : Option Nat} {vx vy : Value} (C : hC Γ l k own nm cc nL ret rm A) (d : decode cc pc = .ok (.if_acmp .ne off, 3)) (hx : vx = va_rf rx) (hy : vy = va_rf ry) (ht : (pc : Int) + off = (t : Int)) (hq : pc + 3 = q) (kt : ¬ rx = ry → hG Γ k A Q M n z t L st) (kf : rx = ry → hG Γ k A Q M n z q L st) : hG Γ k A Q M n z pc L (vy :: vx :: st) := by
  subst hq; subst hx; subst hy
  exact fun H locs ls h1 h2 h3 h4 => lv_acmp_ne C.ex C.cd d ht (fun h => kt h H locs ls h1 h2 h3 h4) (fun h => kf h H locs ls h1 h2 h3 h4)
theorem g_acmp_eq {t q : Nat} {off : Int} {rx ry : Option Nat} {vx vy : Value} (C : hC Γ l k own nm cc nL ret rm A) (d : decode cc pc = .ok (.if_acmp .eq off, 3)) (hx : vx = va_rf rx) (hy : vy = va_rf ry) (ht : (pc : Int) + off = (t : Int)) (hq : pc + 3 = q) (kt : rx = ry → hG Γ k A Q M n z t L st) (kf : ¬ rx = ry → hG Γ k A Q M n z q L st) : hG Γ k A Q M n z pc L (vy :: vx :: st) := by
  subst hq; subst hx; subst hy
  exact fun H locs ls h1 h2 h3 h4 => lv_acmp_eq C.ex C.cd d ht (fun h => kt h H locs ls h1 h2 h3 h4) (fun h => kf h H locs ls h1 h2 h3 h4)
theorem g_tswO {t : Nat} {dflt lo hi : Int} {offs : Array Int} {len : Nat} {x : Int32} (C : hC Γ l k own nm cc nL ret rm A) (d : decode cc pc = .ok (.tableswitch dflt lo hi offs, len)) (h : x.toInt < lo ∨ hi < x.toInt) (ht : (pc : Int) + dflt = (t : Int)) (kk : hG Γ k A Q M n z t L st) : hG Γ k A Q M n z pc L (.int x :: st) :=
  fun H locs ls h1 h2 h3 h4 => lv_tableOut C.ex C.cd d h ht (kk H locs ls h1 h2 h3 h4)
theorem g_tswI {t : Nat} {dflt lo hi : Int} {offs : Array Int} {len : Nat} {x : Int32} {off : Int} (v : Int) (C : hC Γ l k own nm cc nL ret rm A) (d : decode cc pc = .ok (.tableswitch dflt lo hi offs, len)) (hv : x.toInt = v) (h1 : ¬ v < lo) (h2 : ¬ hi < v) (ho : offs[(v - lo).toNat]? = some off) (ht : (pc : Int) + off = (t : Int)) (kk : hG Γ k A Q M n z t L st) : hG Γ k A Q M n z pc L (.int x :: st) := by
  subst hv
  exact fun H locs ls g1 g2 g3 g4 => lv_tableIn C.ex C.cd d h1 h2 ho ht (kk H locs ls g1 g2 g3 g4)
/-! fields -/
def hCls (ci : Nat) (Cn : String) (T : u_T) (N : Nat) (ty : Nat → FieldType) : Prop := (∀ w ∈ u_ws Cn T N, w ∈ hTbl) ∧ (∀ k, k < N → parseFieldDescriptor (T k).2.2.1 = some (ty k)) ∧ (∀ a, a < N → ∀ b, b < N → a ≠ b → (T a).2.1 ≠ (T b).2.1) ∧ vwCl[ci]? = some (Cn, T, N)
section Fld
variable {Cn ref : String} {T : u_T} {N ci index a : Nat} {ty : Nat → FieldType} {w : Bool} {fs : List Value} {v : Value}
theorem g_get {q : Nat} (C : hC Γ l k own nm cc nL ret rm A) (K : hCls ci Cn T N ty) (j : Nat) (hj : j < N) (hlink : Cond.fieldLink own index ref (T j).2.1 (T j).2.2.1 ∈ hTbl) (hsame : (T j).1 = ref) (d : decode cc pc = .ok (.getfield index, 3)) (hM : M a = some (w, .inr (ci, fs))) (hv : fs[j]? = some v) (hq : pc + 3 = q) (kk : hG Γ k A Q M n z q L (v :: st)) : hG Γ k A Q M n z pc L (.ref a :: st) := by
  subst hq
  intro H locs ls h1 h2 h3 h4
  exact va_get (D := Γ.1) (cl := vwCl) C.ex C.cd C.ts K.1 C.ow C.hk (h1.one hM) 0 rfl K.2.2.2 j hj (C.ts _ hlink) (fun x hx => by rw [← hsame]; exact hx) hv d (kk H locs ls h1 h2 h3 h4)
theorem g_getN {q : Nat} {host : String} (C : hC Γ l k own nm cc nL ret rm A) (K : hCls ci Cn T N ty) (j : Nat) (hj : j < N) (hlink : Cond.fieldLinkNest own index ref (T j).2.1 (T j).2.2.1 host ∈ hNest) (hsame : (T j).1 = ref) (d : decode cc pc = .ok (.getfield index, 3)) (hM : M a = some (w, .inr (ci, fs))) (hv : fs[j]? = some v) (hq : pc + 3 = q) (kk : hG Γ k A Q M n z q L (v :: st)) : hG Γ k A Q M n z pc L (.ref a :: st) := by
  subst hq
  intro H locs ls h1 h2 h3 h4
  exact va_getN (D := Γ.1) (cl := vwCl) C.ex C.cd C.ts K.1 C.ow C.hk (h1.one hM) 0 rfl K.2.2.2 j hj (va_Nw.use rfl (C.hx.2.2.2.2.1 _ hlink)) (fun x hx => by rw [← hsame]; exact hx) hv d (kk H locs ls h1 h2 h3 h4)
theorem g_put {q : Nat} (C : hC Γ l k own nm cc nL ret rm A) (K : hCls ci Cn T N ty) (j : Nat) (hj : j < N) (hlink : Cond.fieldLink own index ref (T j).2.1 (T j).2.2.1 ∈ hTbl) (hsame : (T j).1 = ref) (hfin : (T j).2.2.2 = false) (hn : narrow (ty j) v = v) (hfit : fits (ty j) v = true) (d : decode cc pc = .ok (.putfield index, 3)) (hM : M a = some (true, .inr (ci, fs))) (hl : j < fs.length) (hq : pc + 3 = q) (kk : hG Γ k A Q (hU M a (.inr (ci, fs.set j v))) n z q L st) : hG Γ k A Q M n z pc L (v :: .ref a :: st) := by
  subst hq
  intro H locs ls h1 h2 h3 h4
  obtain ⟨hin, hty, hnm, hc⟩ := K
  have hap := va_apart (own := own) (D := Γ.1) (cl := vwCl) C.ts hin ty hty hnm C.hk hc
  obtain ⟨r, g1, cell, q1, q2, q3, q4⟩ := h1.tr hM
  have hr : r = (Cn, T, N) := Option.some.inj (g1.symm.trans hc)
  subst hr
  obtain ⟨hS, hfc, kC9, hkC, hkind⟩ := C.hk.1 ci _ hc
  obtain ⟨cf, kf, fi, f, hi, hsl⟩ := hS j hj
  have hlay := C.ts _ (hin _ (u_in_lay hj))
  unfold u_lay at hlay
  rw [if_neg (by rw [hfin]; decide)] at hlay
  have hst := (u_facts hfc hkC (u_lays C.ts hin hj) hi).1
  have h6 := u_store hfc hkC hkind hlay hi (hty j hj) hn hfit
  refine W.putK C.ex C.cd (f := f) ⟨C.ow, C.ts _ hlink, ⟨_, _, _, by rw [← hsame]; exact hi⟩, hst⟩ (by rw [q2]; exact h6) q1 q3 (by rw [hsl]; exact k2_hasslot (q4 j hj)) rfl rfl d fun H' e1 e2 e3 => ?_
  rw [hsl] at e1 ⊢
  refine kk H' _ ls (h1.put ⟨_, hc, t_OB.to (V := updV (vp_V fs) j v) ⟨_, e1, q2, q3, t_set q4 hap hj v⟩ (fun i _ => vp_updV_set hl v i)⟩ e3) (h2.put (h2 a _ hM)) (h3.put e2 e3 (h2 a _ hM)) h4
theorem g_putF {q : Nat} (C : hC Γ l k own nm cc nL ret rm A) (K : hCls ci Cn T N ty) (j : Nat) (hj : j < N) (hlink : Cond.fieldLink own index ref (T j).2.1 (T j).2.2.1 ∈ hTbl) (hsame : (T j).1 = ref) (hfin : (T j).2.2.2 = true) (hini : nm = "<init>") (hdecl : (T j).1 = own) (hn : narrow (ty j) v = v) (hfit : fits (ty j) v = true) (d : decode cc pc = .ok (.putfield index, 3)) (hM : M a = some (true, .inr (ci, fs))) (hl : j < fs.length) (hq : pc + 3 = q) (kk : hG Γ k A Q (hU M a (.inr (ci, fs.set j v))) n z q L st) : hG Γ k A Q M n z pc L (v :: .ref a :: st) := by
  subst hq
  intro H locs ls h1 h2 h3 h4
  obtain ⟨hin, hty, hnm, hc⟩ := K
  have hap := va_apart (own := own) (D := Γ.1) (cl := vwCl) C.ts hin ty hty hnm C.hk hc
  obtain ⟨r, g1, cell, q1, q2, q3, q4⟩ := h1.tr hM
  have hr : r = (Cn, T, N) := Option.some.inj (g1.symm.trans hc)
  subst hr
  obtain ⟨hS, hfc, kC9, hkC, hkind⟩ := C.hk.1 ci _ hc
  obtain ⟨cf, kf, fi, f, hi, hsl⟩ := hS j hj
  have hlay := C.ts _ (hin _ (u_in_lay hj))
  unfold u_lay at hlay
  rw [if_pos hfin] at hlay
  have hst := (u_facts hfc hkC (u_lays C.ts hin hj) hi).1
  have hcf : (kM k).cls = cf := by
    obtain ⟨_, _, c', _, _, _, -, -, hf', -, -, -, hown2, -⟩ := Cond.laysFinal_spec hlay
    have e1 : c' = cf := by have := hi.symm.trans hf'; simp at this; exact this.1.symm
    rw [hdecl] at hown2
    rw [← e1]; exact Option.some.inj (C.ow.symm.trans hown2)
  have h6 := u_fits hfc hkC hkind (Or.inr hlay) hi (hty j hj) hn hfit
  refine W.putFinK C.ex C.cd C.ow (C.ts _ hlink) (by rw [← hsame]; exact hi) hst hcf (by rw [C.na]; exact hini) (by rw [q2]; exact h6) q1 q3 (by rw [hsl]; exact k2_hasslot (q4 j hj)) rfl rfl d fun H' e1 e2 e3 => ?_
  rw [hsl] at e1 ⊢
  refine kk H' _ ls (h1.put ⟨_, hc, t_OB.to (V := updV (vp_V fs) j v) ⟨_, e1, q2, q3, t_set q4 hap hj v⟩ (fun i _ => vp_updV_set hl v i)⟩ e3) (h2.put (h2 a _ hM)) (h3.put e2 e3 (h2 a _ hM)) h4
/-- a new object: its fields hold their types' first values; it lies where nothing lay -/
theorem g_new {q : Nat} (C : hC Γ l k own nm cc nL ret rm A) (K : hCls ci Cn T N ty) (hcl : Cond.classLink own index Cn ∈ hTbl) (hinst : Cond.instantiable Cn N ∈ hTbl) (hini : Cond.initialized Cn ∈ hTbl) {fs : List Value} (hfs : ∀ j, j < N → defaultValue (ty j) = vp_V fs j) (hcells : n + 1 ≤ rm.cells) (hslots : z + N ≤ rm.slots) (d : decode cc pc = .ok (.new index, 3)) (hq : pc + 3 = q) (kk : ∀ b : Nat, M b = none → hG Γ k A Q (hU M b (.inr (ci, fs))) (n + 1) (z + N) q L (.ref b :: st)) : hG Γ k A Q M n z pc L st := by
  subst hq
  intro H locs ls h1 h2 h3 h4
  obtain ⟨hin, hty, hnm, hc⟩ := K
  have hKn := C.hk.1 ci _ hc
  have hA : A H.size := C.ha _ h3.1
  refine W.newcK C.ex C.cd C.ow (C.ts _ hcl) (C.ts _ hinst) (C.ts _ hini) rfl d (by rw [C.ro]; exact hcells) (by rw [C.ro]; exact hslots) hKn.2.1 rfl fun H1 kC9 hkC e1 z1 o1 => ?_
  have hfr : M H.size = none := h1.fresh (Nat.le_refl _)
  refine kk H.size hfr H1 locs ls (fun b x hx => ?_) (h2.put hA) ⟨Nat.le_trans h3.1 (by omega), fun x g1 g2 => (o1 x (Nat.lt_of_lt_of_le g1 h3.1)).trans (h3.2.1 x g1 g2), h3.2.2⟩ h4
  by_cases hb : b = H.size
  · subst hb
    rw [hU_s] at hx
    cases hx
    exact Or.inl ⟨_, hc, (u_born ty C.ts hin hKn hkC e1 hty).to hfs⟩
  · rw [hU_n hb] at hx
    exact (h1 b x hx).imp (fun z => z.kept (o1 b (h1.lt hx))) (fun z => ⟨z.1, hP.ltk z.2 (o1 b (h1.lt hx))⟩)
end Fld
theorem g_objInit {q index a : Nat} (C : hC Γ l k own nm cc nL ret rm A) (hlink : Cond.methodLink own index Lib.objectInit ∈ hTbl) (hinst : Cond.instanceMethod Lib.objectInit ∈ hTbl) (hcode : Cond.code Lib.objectInit ⟨#[0xb1]⟩ 1 none ∈ hTbl) (hsz : L.length = nL) (d : decode cc pc = .ok (.invokespecial index, 3)) (hf : 1 ≤ rm.frames) (hlo : (st.map fun v => v.category).sum + 12 ≤ rm.locals) (hq : pc + 3 = q) (kk : hG Γ k A Q M n z q L st) : hG Γ k A Q M n z pc L (.ref a :: st) := by
  subst hq
  intro H locs ls h1 h2 h3 h4
  exact W.objInit C.ex C.cd C.ow (C.ts _ hlink) (C.ts _ hinst) (C.ts _ hcode) rfl (by rw [C.ml, ← hsz]; exact h4.1) rfl d (by rw [C.ro]; exact hf) (by rw [C.ro]; show 2 * 0 + _ + 12 ≤ _; omega) (kk H locs ls h1 h2 h3 h4)
theorem g_max {q index : Nat} {x y : Int32} (C : hC Γ l k own nm cc nL ret rm A) (hlink : Cond.methodLink own index Lib.Math.max.name ∈ hTbl) (hsz : L.length = nL) (d : decode cc pc = .ok (.invokestatic index, 3)) (hf : 1 ≤ rm.frames) (hlo : (st.map fun v => v.category).sum + 13 ≤ rm.locals) (hc : n ≤ rm.cells) (hs : z ≤ rm.slots) (hq : pc + 3 = q) (hw : Cond.static Lib.Math.max.name ∈ hTbl ∧ Cond.initialized "java/lang/Math" ∈ hTbl ∧ Cond.code Lib.Math.max.name Lib.Math.max.code 2 (some .int) ∈ hTbl) (kk : hG Γ k A Q M n z q L (.int (if x < y then y else x) :: st)) : hG Γ k A Q M n z pc L (.int y :: .int x :: st) := by
  subst hq
  intro H locs ls h1 h2 h3 h4
  exact va_mmax C.ex C.cd (by rw [C.ml, ← hsz]; exact h4.1.symm) C.ow (C.ts _ hlink) (C.ts _ hw.1) (C.ts _ hw.2.1) (C.ts _ hw.2.2) (by rw [C.ro]; exact hf) (by rw [C.ro]; exact hlo) (by rw [C.ro]; exact hc) (by rw [C.ro]; exact hs) d (kk H locs ls h1 h2 h3 h4)
theorem g_min {q index : Nat} {x y : Int32} (C : hC Γ l k own nm cc nL ret rm A) (hlink : Cond.methodLink own index Lib.Math.min.name ∈ hTbl) (hsz : L.length = nL) (d : decode cc pc = .ok (.invokestatic index, 3)) (hf : 1 ≤ rm.frames) (hlo : (st.map fun v => v.category).sum + 13 ≤ rm.locals) (hc : n ≤ rm.cells) (hs : z ≤ rm.slots) (hq : pc + 3 = q) (hw : Cond.static Lib.Math.min.name ∈ hTbl ∧ Cond.initialized "java/lang/Math" ∈ hTbl ∧ Cond.code Lib.Math.min.name Lib.Math.min.code 2 (some .int) ∈ hTbl) (kk : hG Γ k A Q M n z q L (.int (if y < x then y else x) :: st)) : hG Γ k A Q M n z pc L (.int y :: .int x :: st) := by
  subst hq
  intro H locs ls h1 h2 h3 h4
  exact va_mmin C.ex C.cd (by rw [C.ml, ← hsz]; exact h4.1.symm) C.ow (C.ts _ hlink) (C.ts _ hw.1) (C.ts _ hw.2.1) (C.ts _ hw.2.2) (by rw [C.ro]; exact hf) (by rw [C.ro]; exact hlo) (by rw [C.ro]; exact hc) (by rw [C.ro]; exact hs) d (kk H locs ls h1 h2 h3 h4)
end hRows
