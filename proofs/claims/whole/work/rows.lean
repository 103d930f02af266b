section
/-- a private method of a class that the tables say can be made, by its rows of tables_1 -/
def lw_okq (q : MethodName × Nat) : Prop := (q.1.cls ≠ "java/lang/invoke/MethodHandle" ∧ q.1.cls ≠ "java/lang/invoke/VarHandle") ∧ Cond.instantiable q.1.cls q.2 ∈ tables_1 ∧ Cond.privateMethod q.1 ∈ tables_1 ∧ Cond.instanceMethod q.1 ∈ tables_1
theorem lw_p0 : lw_okq (⟨"HerbLoft", "ordersThatGotAll", "()I"⟩, 6) := ⟨⟨by decide +kernel, by decide +kernel⟩, List.mem_of_getElem? (i := 24) (by decide +kernel), List.mem_of_getElem? (i := 221) (by decide +kernel), List.mem_of_getElem? (i := 222) (by decide +kernel)⟩
theorem lw_p1 : lw_okq (⟨"HerbLoft", "bundlesGiven", "()I"⟩, 6) := ⟨⟨by decide +kernel, by decide +kernel⟩, List.mem_of_getElem? (i := 24) (by decide +kernel), List.mem_of_getElem? (i := 226) (by decide +kernel), List.mem_of_getElem? (i := 227) (by decide +kernel)⟩
theorem lw_p2 : lw_okq (⟨"java/lang/Throwable", "fillInStackTrace", "(I)Ljava/lang/Throwable;"⟩, 6) := ⟨⟨by decide +kernel, by decide +kernel⟩, List.mem_of_getElem? (i := 268) (by decide +kernel), List.mem_of_getElem? (i := 266) (by decide +kernel), List.mem_of_getElem? (i := 267) (by decide +kernel)⟩
theorem lw_p3 : lw_okq (⟨"HerbLoft", "herbNumbered", "(I)LHerbLoft$Herb;"⟩, 6) := ⟨⟨by decide +kernel, by decide +kernel⟩, List.mem_of_getElem? (i := 24) (by decide +kernel), List.mem_of_getElem? (i := 302) (by decide +kernel), List.mem_of_getElem? (i := 303) (by decide +kernel)⟩
theorem lw_p4 : lw_okq (⟨"HerbLoft$Hook", "isWetterThan", "(LHerbLoft$Hook;)Z"⟩, 10) := ⟨⟨by decide +kernel, by decide +kernel⟩, List.mem_of_getElem? (i := 65) (by decide +kernel), List.mem_of_getElem? (i := 352) (by decide +kernel), List.mem_of_getElem? (i := 353) (by decide +kernel)⟩
theorem lw_p5 : lw_okq (⟨"java/util/ArrayList", "add", "(Ljava/lang/Object;[Ljava/lang/Object;I)V"⟩, 3) := ⟨⟨by decide +kernel, by decide +kernel⟩, List.mem_of_getElem? (i := 32) (by decide +kernel), List.mem_of_getElem? (i := 423) (by decide +kernel), List.mem_of_getElem? (i := 424) (by decide +kernel)⟩
theorem lw_p6 : lw_okq (⟨"java/util/ArrayList", "grow", "()[Ljava/lang/Object;"⟩, 3) := ⟨⟨by decide +kernel, by decide +kernel⟩, List.mem_of_getElem? (i := 32) (by decide +kernel), List.mem_of_getElem? (i := 427) (by decide +kernel), List.mem_of_getElem? (i := 428) (by decide +kernel)⟩
theorem lw_p7 : lw_okq (⟨"java/util/ArrayList", "grow", "(I)[Ljava/lang/Object;"⟩, 3) := ⟨⟨by decide +kernel, by decide +kernel⟩, List.mem_of_getElem? (i := 32) (by decide +kernel), List.mem_of_getElem? (i := 431) (by decide +kernel), List.mem_of_getElem? (i := 432) (by decide +kernel)⟩
theorem lw_p8 : lw_okq (⟨"HerbLoft$Hook", "spreadsMould", "()Z"⟩, 10) := ⟨⟨by decide +kernel, by decide +kernel⟩, List.mem_of_getElem? (i := 65) (by decide +kernel), List.mem_of_getElem? (i := 590) (by decide +kernel), List.mem_of_getElem? (i := 591) (by decide +kernel)⟩
theorem lw_p9 : lw_okq (⟨"HerbLoft", "scoreOfTrialBehind", "(II)I"⟩, 6) := ⟨⟨by decide +kernel, by decide +kernel⟩, List.mem_of_getElem? (i := 24) (by decide +kernel), List.mem_of_getElem? (i := 643) (by decide +kernel), List.mem_of_getElem? (i := 644) (by decide +kernel)⟩
theorem lw_p10 : lw_okq (⟨"HerbLoftModel", "no", "(I)I"⟩, 14) := ⟨⟨by decide +kernel, by decide +kernel⟩, List.mem_of_getElem? (i := 647) (by decide +kernel), List.mem_of_getElem? (i := 739) (by decide +kernel), List.mem_of_getElem? (i := 740) (by decide +kernel)⟩
theorem lw_p11 : lw_okq (⟨"HerbLoftModel", "isHerb", "(I)Z"⟩, 14) := ⟨⟨by decide +kernel, by decide +kernel⟩, List.mem_of_getElem? (i := 647) (by decide +kernel), List.mem_of_getElem? (i := 750) (by decide +kernel), List.mem_of_getElem? (i := 751) (by decide +kernel)⟩
theorem lw_p12 : lw_okq (⟨"HerbLoftModel", "filled", "(I)I"⟩, 14) := ⟨⟨by decide +kernel, by decide +kernel⟩, List.mem_of_getElem? (i := 647) (by decide +kernel), List.mem_of_getElem? (i := 809) (by decide +kernel), List.mem_of_getElem? (i := 810) (by decide +kernel)⟩
theorem lw_p13 : lw_okq (⟨"HerbLoftModel", "fits", "(II)Z"⟩, 14) := ⟨⟨by decide +kernel, by decide +kernel⟩, List.mem_of_getElem? (i := 647) (by decide +kernel), List.mem_of_getElem? (i := 813) (by decide +kernel), List.mem_of_getElem? (i := 814) (by decide +kernel)⟩
theorem lw_p14 : lw_okq (⟨"HerbLoftModel", "daysOn", "(LHerbLoftModel$State;II)V"⟩, 14) := ⟨⟨by decide +kernel, by decide +kernel⟩, List.mem_of_getElem? (i := 647) (by decide +kernel), List.mem_of_getElem? (i := 821) (by decide +kernel), List.mem_of_getElem? (i := 822) (by decide +kernel)⟩
theorem lw_p15 : lw_okq (⟨"HerbLoftModel", "dayOn", "(LHerbLoftModel$State;I)V"⟩, 14) := ⟨⟨by decide +kernel, by decide +kernel⟩, List.mem_of_getElem? (i := 647) (by decide +kernel), List.mem_of_getElem? (i := 825) (by decide +kernel), List.mem_of_getElem? (i := 826) (by decide +kernel)⟩
def lw_privs_1 : List (MethodName × Nat) := [(⟨"HerbLoft", "ordersThatGotAll", "()I"⟩, 6), (⟨"HerbLoft", "bundlesGiven", "()I"⟩, 6), (⟨"java/lang/Throwable", "fillInStackTrace", "(I)Ljava/lang/Throwable;"⟩, 6), (⟨"HerbLoft", "herbNumbered", "(I)LHerbLoft$Herb;"⟩, 6), (⟨"HerbLoft$Hook", "isWetterThan", "(LHerbLoft$Hook;)Z"⟩, 10), (⟨"java/util/ArrayList", "add", "(Ljava/lang/Object;[Ljava/lang/Object;I)V"⟩, 3), (⟨"java/util/ArrayList", "grow", "()[Ljava/lang/Object;"⟩, 3), (⟨"java/util/ArrayList", "grow", "(I)[Ljava/lang/Object;"⟩, 3), (⟨"HerbLoft$Hook", "spreadsMould", "()Z"⟩, 10), (⟨"HerbLoft", "scoreOfTrialBehind", "(II)I"⟩, 6), (⟨"HerbLoftModel", "no", "(I)I"⟩, 14), (⟨"HerbLoftModel", "isHerb", "(I)Z"⟩, 14), (⟨"HerbLoftModel", "filled", "(I)I"⟩, 14), (⟨"HerbLoftModel", "fits", "(II)Z"⟩, 14), (⟨"HerbLoftModel", "daysOn", "(LHerbLoftModel$State;II)V"⟩, 14), (⟨"HerbLoftModel", "dayOn", "(LHerbLoftModel$State;I)V"⟩, 14)]
theorem lw_r1 : ∀ q ∈ lw_privs_1, lw_okq q := List.forall_mem_cons.mpr ⟨lw_p0, List.forall_mem_cons.mpr ⟨lw_p1, List.forall_mem_cons.mpr ⟨lw_p2, List.forall_mem_cons.mpr ⟨lw_p3, List.forall_mem_cons.mpr ⟨lw_p4, List.forall_mem_cons.mpr ⟨lw_p5, List.forall_mem_cons.mpr ⟨lw_p6, List.forall_mem_cons.mpr ⟨lw_p7, List.forall_mem_cons.mpr ⟨lw_p8, List.forall_mem_cons.mpr ⟨lw_p9, List.forall_mem_cons.mpr ⟨lw_p10, List.forall_mem_cons.mpr ⟨lw_p11, List.forall_mem_cons.mpr ⟨lw_p12, List.forall_mem_cons.mpr ⟨lw_p13, List.forall_mem_cons.mpr ⟨lw_p14, List.forall_mem_cons.mpr ⟨lw_p15, fun _ h => absurd h List.not_mem_nil⟩⟩⟩⟩⟩⟩⟩⟩⟩⟩⟩⟩⟩⟩⟩⟩
theorem lw_p16 : lw_okq (⟨"HerbLoftModel$State", "isWetter", "(II)I"⟩, 6) := ⟨⟨by decide +kernel, by decide +kernel⟩, List.mem_of_getElem? (i := 653) (by decide +kernel), List.mem_of_getElem? (i := 841) (by decide +kernel), List.mem_of_getElem? (i := 842) (by decide +kernel)⟩
theorem lw_p17 : lw_okq (⟨"HerbLoftModel$State", "isBad", "(I)Z"⟩, 6) := ⟨⟨by decide +kernel, by decide +kernel⟩, List.mem_of_getElem? (i := 653) (by decide +kernel), List.mem_of_getElem? (i := 851) (by decide +kernel), List.mem_of_getElem? (i := 852) (by decide +kernel)⟩
theorem lw_p18 : lw_okq (⟨"HerbLoftModel", "bundleTold", "(II)I"⟩, 14) := ⟨⟨by decide +kernel, by decide +kernel⟩, List.mem_of_getElem? (i := 647) (by decide +kernel), List.mem_of_getElem? (i := 859) (by decide +kernel), List.mem_of_getElem? (i := 860) (by decide +kernel)⟩
theorem lw_p19 : lw_okq (⟨"HerbLoftModel", "herbTold", "(II)I"⟩, 14) := ⟨⟨by decide +kernel, by decide +kernel⟩, List.mem_of_getElem? (i := 647) (by decide +kernel), List.mem_of_getElem? (i := 867) (by decide +kernel), List.mem_of_getElem? (i := 868) (by decide +kernel)⟩
theorem lw_p20 : lw_okq (⟨"HerbLoftModel", "orderTold", "(II)I"⟩, 14) := ⟨⟨by decide +kernel, by decide +kernel⟩, List.mem_of_getElem? (i := 647) (by decide +kernel), List.mem_of_getElem? (i := 875) (by decide +kernel), List.mem_of_getElem? (i := 876) (by decide +kernel)⟩
theorem lw_p21 : lw_okq (⟨"HerbLoftModel", "counted", "(I)I"⟩, 14) := ⟨⟨by decide +kernel, by decide +kernel⟩, List.mem_of_getElem? (i := 647) (by decide +kernel), List.mem_of_getElem? (i := 883) (by decide +kernel), List.mem_of_getElem? (i := 884) (by decide +kernel)⟩
theorem lw_p22 : lw_okq (⟨"HerbLoftModel", "untilDry", "(III)I"⟩, 14) := ⟨⟨by decide +kernel, by decide +kernel⟩, List.mem_of_getElem? (i := 647) (by decide +kernel), List.mem_of_getElem? (i := 891) (by decide +kernel), List.mem_of_getElem? (i := 892) (by decide +kernel)⟩
theorem lw_p23 : lw_okq (⟨"HerbLoftModel", "bestString", "(II)I"⟩, 14) := ⟨⟨by decide +kernel, by decide +kernel⟩, List.mem_of_getElem? (i := 647) (by decide +kernel), List.mem_of_getElem? (i := 903) (by decide +kernel), List.mem_of_getElem? (i := 904) (by decide +kernel)⟩
theorem lw_p24 : lw_okq (⟨"HerbLoftModel", "badBehind", "(III)I"⟩, 14) := ⟨⟨by decide +kernel, by decide +kernel⟩, List.mem_of_getElem? (i := 647) (by decide +kernel), List.mem_of_getElem? (i := 907) (by decide +kernel), List.mem_of_getElem? (i := 908) (by decide +kernel)⟩
def lw_privs_2 : List (MethodName × Nat) := [(⟨"HerbLoftModel$State", "isWetter", "(II)I"⟩, 6), (⟨"HerbLoftModel$State", "isBad", "(I)Z"⟩, 6), (⟨"HerbLoftModel", "bundleTold", "(II)I"⟩, 14), (⟨"HerbLoftModel", "herbTold", "(II)I"⟩, 14), (⟨"HerbLoftModel", "orderTold", "(II)I"⟩, 14), (⟨"HerbLoftModel", "counted", "(I)I"⟩, 14), (⟨"HerbLoftModel", "untilDry", "(III)I"⟩, 14), (⟨"HerbLoftModel", "bestString", "(II)I"⟩, 14), (⟨"HerbLoftModel", "badBehind", "(III)I"⟩, 14)]
theorem lw_r2 : ∀ q ∈ lw_privs_2, lw_okq q := List.forall_mem_cons.mpr ⟨lw_p16, List.forall_mem_cons.mpr ⟨lw_p17, List.forall_mem_cons.mpr ⟨lw_p18, List.forall_mem_cons.mpr ⟨lw_p19, List.forall_mem_cons.mpr ⟨lw_p20, List.forall_mem_cons.mpr ⟨lw_p21, List.forall_mem_cons.mpr ⟨lw_p22, List.forall_mem_cons.mpr ⟨lw_p23, List.forall_mem_cons.mpr ⟨lw_p24, fun _ h => absurd h List.not_mem_nil⟩⟩⟩⟩⟩⟩⟩⟩⟩
def lw_privs : List (MethodName × Nat) := lw_privs_1 ++ (lw_privs_2)
def lw_tbl : List Cond := k2_sels lw_privs ++ tables_1
theorem lw_privs_ok : ∀ q ∈ lw_privs, lw_okq q := by
  show ∀ q ∈ lw_privs_1 ++ (lw_privs_2), lw_okq q
  exact List.forall_mem_append.mpr ⟨lw_r1, lw_r2⟩
/-- the streams that the claim lets the run draw from -/
abbrev lw_cs : List Choice := [Jvm.Choice.named "NaN.bits"]
theorem lw_bits : nanBits ∈ lw_cs := by first | decide | exact List.mem_cons_self | simp [lw_cs, nanBits]
end
section
/-! ===== BEGIN words of one list among another's, by their places ===== -/
theorem goodIn_r {big : List Cond} (ws : List Cond) (ps : List Nat) (hp : ws = ps.filterMap (fun i => big[i]?)) (h : ws.all goodWord = true) : GoodIn big ws := by
  intro w hw
  have h1 := List.all_eq_true.mp h w hw
  rw [hp] at hw
  obtain ⟨i, -, hi⟩ := List.mem_filterMap.mp hw
  have hm : w ∈ big := by first | exact List.mem_of_getElem? hi | exact List.getElem?_mem hi
  exact ⟨hm, good_of_word h1⟩
theorem goodIn_app {big a b : List Cond} (ha : GoodIn big a) (hb : GoodIn big b) : GoodIn big (a ++ b) := fun w h => (List.mem_append.mp h).elim (ha w) (hb w)
theorem goodIn_ca {big a b : List Cond} {c : Cond} (ha : GoodIn big (c :: a)) (hb : GoodIn big b) : GoodIn big (c :: (a ++ b)) := fun w h => (List.mem_cons.mp h).elim (fun e => ha w (List.mem_cons.mpr (Or.inl e))) (fun h => (List.mem_append.mp h).elim (fun h => ha w (List.mem_cons.mpr (Or.inr h))) (hb w))
theorem goodIn_sub {big ws : List Cond} (hm : ∀ w ∈ ws, w ∈ big) (h : ws.all goodWord = true) : GoodIn big ws := fun w hw => ⟨hm w hw, good_of_word (List.all_eq_true.mp h w hw)⟩
/-! ===== END ===== -/

/-! ===== BEGIN exceptions that leave a method, and their catching by the caller (launches without stack traces) ===== -/
section VXA
/-! The laws vx_back, vx_callV, vx_callS, vx_callSW, vx_throw0, vx_throwS follow proofs of the library, with one case more: JvmDerived/Free/Laws.lean (Back.of_free), Shelf42/LK1.lean (callV, callS), Shelf/KitTraced.lean (throwNew0V, throwNewS). -/
/-- where a method has thrown q: the class by its name, the cell, what was written, the world -/
def vx_T (XC : String → State → State → Prop) (st : State) (q : Addr) (t : State) (mc ms : Nat) (free : Addr → Prop) : Prop :=
  ∃ (E : String) (ce : Cell) (L : List Loc), XC E st t ∧ t.heap[q]? = some ce ∧ ce.vm = .none ∧ st.vm.findClass E = some ce.cls ∧ st.WarmedH t.vm ∧ st.sameButNew ({ t with vm := st.vm } : State) L mc ms ∧ ∀ z ∈ L, free z.base
def vx_Q (Qc : Array Value → State → Outcome → State → Prop) (XC : String → State → State → Prop) (mc ms : Nat) (free : Addr → Prop) : Array Value → State → Outcome → State → Prop := fun a st o t =>
  (Qc a st o t ∧ ∃ L, FrameEnd st o t L mc ms ∧ ∀ q ∈ L, free q.base) ∨ ∃ q, o = .threw q ∧ vx_T XC st q t mc ms free
/-- a callee that returns or throws -/
def vx_Met (l : Launch) (y : MethodName) (ws : List Cond) (rm : Room) (Pc : Array Value → State → Prop) (Qc : Array Value → State → Outcome → State → Prop) (XC : String → State → State → Prop) (mc ms : Nat) (free : Addr → Prop) : Prop :=
  MetFree l y (headSpec ws rm) Pc (fun _ _ _ _ _ => True) (vx_Q Qc XC mc ms free)
def vx_Post (XC : String → State → State → Prop) (mc ms : Nat) (free : Addr → Prop) : Pt → Array Value → Addr → Pt → Prop := fun A a q B =>
  ∃ (g : JFrame) (mk : MethodId) (t : State) (L : List Loc) (E : String) (ce : Cell), B.U.heap = t.heap ∧ B.U.vm = t.vm ∧ XC E (A.U.calling g mk a) t ∧ t.heap[q]? = some ce ∧ ce.vm = .none ∧ A.U.vm.findClass E = some ce.cls ∧ B.locs = A.locs ++ L ∧ (∀ z ∈ L, free z.base) ∧ B.cells = A.cells + mc ∧ B.slots = A.slots + ms
def vx_Back (l : Launch) (R : Room) (p : Program) (e : Env) (below : List Frame) (s : State) (sargs : Array Value) (y : MethodName) (len W9 : Nat)
    (Pre : Pt → Array Value → Prop) (Post : Pt → Array Value → Option Value → Pt → Prop) (PostX : Pt → Array Value → Addr → Pt → Prop) : Prop :=
  ∀ (m : MethodId) (meth : Method) (c : Code) (A : Pt) (g : JFrame) (ig : Instr) (mk : MethodId) (a : Array Value),
    Stand p l e R s m sargs below meth c A.U A.locs A.cells A.slots → g.method = m → g.locals.size = c.maxLocals → decode c.code g.pc = .ok (ig, len) →
    2 * g.monitorRoom + (g.stack.map fun v => v.category).sum ≤ W9 → A.U.methodNamed? y = some mk → Pre A a →
    (∃ (v : Option Value) (B : Pt), Stand p l e R s m sargs below meth c B.U B.locs B.cells B.slots ∧ Post A a v B ∧
      Steps p.tables e below (doInvoke e (A.U.setTop g) [] mk a).1 (B.U.setTop { g with pc := g.pc + len, stack := v.toList ++ g.stack })) ∨
    (∃ (q : Addr) (B : Pt), Stand p l e R s m sargs below meth c B.U B.locs B.cells B.slots ∧ PostX A a q B ∧
      Steps p.tables e below (doInvoke e (A.U.setTop g) [] mk a).1 ((B.U.setTop g).pushFrame (.throwing q)))
section Payer
variable {l : Launch} {R : Room} {p : Program} {e : Env} {below : List Frame} {s : State} {sargs : Array Value} {y : MethodName} {len W9 : Nat}
theorem vx_back {ws : List Cond} {rm : Room} {Pc : Array Value → State → Prop} {Qc : Array Value → State → Outcome → State → Prop} {XC : String → State → State → Prop} {mc ms : Nat} {free : Addr → Prop} {bytes : ByteArray} {maxL : Nat} {ret : Option FieldType}
    (hM : vx_Met l y ws rm Pc Qc XC mc ms free) (hblind : FrameBlind Pc) (hrc : rm.cells = mc) (hrs : rm.slots = ms)
    (hframes : rm.frames + 1 ≤ R.frames) (hlocals : W9 + (maxL + 11) + rm.locals ≤ R.locals)
    (hws : ∀ w ∈ ws, ∀ a' U, s.WarmedH U.vm → w.before a' U = true) (hcode : Cond.code y bytes maxL ret ∈ ws) (hinit : ∀ a' U, s.WarmedH U.vm → (Cond.initialized y.cls).before a' U = true) :
    vx_Back l R p e below s sargs y len W9 (PreOf R mc ms Pc) (PostOf Qc mc ms free) (vx_Post XC mc ms free) := by
  intro m meth c A g ig mk a X hg hsize hdg hW hn hp
  have h1 : (headSpec ws rm).pre.before a A.U = true := atoms_intro fun w hw => hws w hw _ _ X.warmed
  have h2 : (Cond.code y bytes maxL ret).before a A.U = true := hws _ hcode _ _ X.warmed
  have h3 : (Cond.initialized y.cls).before a A.U = true := hinit _ _ X.warmed
  have h4 : A.cells + (headSpec ws rm).room.cells ≤ R.cells := by rw [show (headSpec ws rm).room.cells = mc from hrc]; exact hp.1
  have h5 : A.slots + (headSpec ws rm).room.slots ≤ R.slots := by rw [show (headSpec ws rm).room.slots = ms from hrs]; exact hp.2.1
  have hPc : Pc a (A.U.calling g mk a) := hblind _ _ _ _ hp.2.2
  obtain ⟨U, Ls, c0, s0⟩ := A
  dsimp only [Pt.U, Pt.locs, Pt.cells, Pt.slots] at h1 h2 h3 h4 h5 X hn hPc ⊢
  obtain ⟨methY, cY, hmY, hcY, -, hlY, -, -, -, -⟩ := Cond.code_spec hn h2
  obtain ⟨kY, hkY, -⟩ := className_of_methodNamed hn
  have hinitY : kY.init = .initialized := Cond.initialized_spec (findClass_of_methodNamed hn) hkY h3
  have h : At U g.method c below := by rw [hg]; exact X.here
  have hlocals9 : W9 + (maxL + 11) + (headSpec ws rm).room.locals ≤ R.locals := hlocals
  have happ : (headSpec ws rm).appliesLoose y e.platform (U.calling g mk a) = true :=
    Spec.appliesLoose_calling (g := g) h hdg hn hkY hinitY
      (X.room_calling (g := g) (R' := (headSpec ws rm).room) hsize hmY hcY hframes (by rw [hlY]; omega) h4 h5) h1
  obtain ⟨mid, hmid⟩ := h.above
  have hfr : (U.setTop g).frames = (.java g :: mid) ++ below := by rw [State.frames_setTop' g h.top, hmid]; rfl
  obtain ⟨o, s₂, hsteps, -, hend, hq⟩ := Steps.callFree hM p X.admits X.cas X.clock (acts := []) hfr happ hPc trivial
  have hq' : vx_Q Qc XC mc ms free a (U.calling g mk a) o s₂ := hq
  rw [State.frames_setTop' g h.top] at hend
  obtain ⟨g₀, hg0⟩ := Option.isSome_iff_exists.mp h.top
  obtain ⟨r, hr⟩ := State.topJava?_eq_some.mp hg0
  have hr' : (({ U with heap := s₂.heap, slotsUsed := s₂.slotsUsed } : State).setVm s₂.vm).frames = .java g₀ :: r := hr
  rcases hq' with ⟨hqc, L, hfe, hL⟩ | ⟨q, rfl, E, ce, L, hx, hce, hcv, hcl, hW₂, hsm, hL⟩
  · obtain ⟨⟨v, rfl⟩, hW₂, e2, q2, q3, q4, q5, q6⟩ := id hfe
    have e3 : s₂ = ({ (U.calling g mk a).setFrames s₂.frames with heap := s₂.heap, slotsUsed := s₂.slotsUsed } : State).setVm s₂.vm := by
      have : s₂ = ({ s₂ with vm := (U.calling g mk a).vm } : State).setVm s₂.vm := rfl
      rw [e2] at this
      exact this
    obtain ⟨c₂, i₂, len₂, hc₂, hd₂, hf₂⟩ := hend
    have hW' : U.WarmedH s₂.vm := hW₂
    have hcc : c₂ = c := by
      have h1 : s₂.code? g.method = U.code? g.method := by
        rw [State.code?_eq, State.code?_eq, hW'.alike.method?]
      exact Option.some.inj (hc₂.symm.trans (h1.trans h.code))
    subst hcc
    have hlen : len₂ = len := by rw [hdg] at hd₂; cases hd₂; rfl
    subst hlen
    have hs₂ : s₂ = (({ U with heap := s₂.heap, slotsUsed := s₂.slotsUsed } : State).setVm s₂.vm).setTop { g with pc := g.pc + len₂, stack := v.toList ++ g.stack } := by
      refine e3.trans ?_
      rw [hf₂, State.calling_eq h.top, State.setFrames_setFrames, State.setTop_of_frames _ hr', hr]
      rfl
    have hsame : U.sameButNew ({ U with heap := s₂.heap, slotsUsed := s₂.slotsUsed } : State) L mc ms := by
      refine ⟨?_, q2, q3, q4, q5, q6⟩
      obtain ⟨t, ht, -⟩ := State.frames_cons hr
      show ({ U with heap := s₂.heap, slotsUsed := s₂.slotsUsed } : State) = { U.setFrames U.frames with heap := s₂.heap, slotsUsed := s₂.slotsUsed }
      rw [State.setFrames_self ht]
    subst hg
    refine Or.inl ⟨v, ⟨(({ U with heap := s₂.heap, slotsUsed := s₂.slotsUsed } : State).setVm s₂.vm), Ls ++ L, c0 + mc, s0 + ms⟩,
      ⟨X.admits, X.cas, X.clock, X.frames, X.room, X.hears, X.method, X.code, (X.here.setHeapUsed s₂.heap s₂.slotsUsed).setVm hW'.alike, X.tail, State.WarmedH.trans X.warmed hW', X.limits, X.bytes, X.same.trans (hsame.setVm s.vm)⟩,
      ⟨g, mk, s₂, L, rfl, rfl, hqc, rfl, hL, rfl, rfl⟩, ?_⟩
    show Steps p.tables e below _ ((({ U with heap := s₂.heap, slotsUsed := s₂.slotsUsed } : State).setVm s₂.vm).setTop { g with pc := g.pc + len₂, stack := v.toList ++ g.stack })
    rw [← hs₂]
    exact hsteps
  · obtain ⟨e2, q2, q3, q4, q5, q6⟩ := id hsm
    have e3 : s₂ = ({ (U.calling g mk a).setFrames s₂.frames with heap := s₂.heap, slotsUsed := s₂.slotsUsed } : State).setVm s₂.vm := by
      have : s₂ = ({ s₂ with vm := (U.calling g mk a).vm } : State).setVm s₂.vm := rfl
      rw [e2] at this
      exact this
    have hf₂ : s₂.frames = .throwing q :: .java g :: U.frames.tail := hend
    have hW' : U.WarmedH s₂.vm := hW₂
    have hs₂ : s₂ = ((({ U with heap := s₂.heap, slotsUsed := s₂.slotsUsed } : State).setVm s₂.vm).setTop g).pushFrame (.throwing q) := by
      refine e3.trans ?_
      rw [hf₂, State.calling_eq h.top, State.setFrames_setFrames, State.pushFrame, State.frames_setTop _ hr', State.setTop_of_frames _ hr', State.setFrames_setFrames, hr]
      rfl
    have hsame : U.sameButNew ({ U with heap := s₂.heap, slotsUsed := s₂.slotsUsed } : State) L mc ms := by
      refine ⟨?_, q2, q3, q4, q5, q6⟩
      obtain ⟨t, ht, -⟩ := State.frames_cons hr
      show ({ U with heap := s₂.heap, slotsUsed := s₂.slotsUsed } : State) = { U.setFrames U.frames with heap := s₂.heap, slotsUsed := s₂.slotsUsed }
      rw [State.setFrames_self ht]
    subst hg
    refine Or.inr ⟨q, ⟨(({ U with heap := s₂.heap, slotsUsed := s₂.slotsUsed } : State).setVm s₂.vm), Ls ++ L, c0 + mc, s0 + ms⟩,
      ⟨X.admits, X.cas, X.clock, X.frames, X.room, X.hears, X.method, X.code, (X.here.setHeapUsed s₂.heap s₂.slotsUsed).setVm hW'.alike, X.tail, State.WarmedH.trans X.warmed hW', X.limits, X.bytes, X.same.trans (hsame.setVm s.vm)⟩,
      ⟨g, mk, s₂, L, E, ce, rfl, rfl, hx, hce, hcv, hcl, rfl, hL, rfl, rfl⟩, ?_⟩
    show Steps p.tables e below _ (((({ U with heap := s₂.heap, slotsUsed := s₂.slotsUsed } : State).setVm s₂.vm).setTop g).pushFrame (.throwing q))
    rw [← hs₂]
    exact hsteps
end Payer
section Calls
variable {p : Program} {l : Launch} {e : Env} {R : Room} {s : State} {m : MethodId} {args : Array Value} {below : List Frame} {meth : Method} {c : Code} {T : State} {locs : List Loc} {cells slots : Nat}
theorem vx_callV (X : Stand p l e R s m args below meth c T locs cells slots) (hexec : p.tables.exec = Jvm.exec) {own C : String} {index : Nat} {y : MethodName} {bytes : ByteArray} {maxL : Nat} {ret : Option FieldType}
    (hown : s.vm.findClass own = some m.cls) (hlink : (Cond.methodLink own index y).before args s = true) (hinst : (Cond.instanceMethod y).before args s = true) (hsel : (Cond.selects C y y).before args s = true)
    (hcode : (Cond.code y bytes maxL ret).before args s = true) (hy : y.cls ≠ "java/lang/invoke/MethodHandle" ∧ y.cls ≠ "java/lang/invoke/VarHandle")
    {W9 : Nat} {Pre : Pt → Array Value → Prop} {Post : Pt → Array Value → Option Value → Pt → Prop} {PostX : Pt → Array Value → Addr → Pt → Prop} (hK : vx_Back l R p e below s args y 3 W9 Pre Post PostX)
    {b : Addr} {cellB : Cell} (hcell : T.heap[b]? = some cellB) (hobj : cellB.vm.isStatics = false) (hcls : s.vm.findClass C = some cellB.cls)
    {g : JFrame} (hg : g.method = m) (hsize : g.locals.size = c.maxLocals) {argsL rest : List Value} (hlen : ∀ sig, parseMethodDescriptor y.desc = some sig → argsL.length = sig.parameters.length)
    (hstack : g.stack = argsL.reverse ++ .ref b :: rest) (hW : 2 * g.monitorRoom + (rest.map fun v => v.category).sum ≤ W9) (hdg : decode c.code g.pc = .ok (.invokevirtual index, 3))
    (hpre : ∀ vm₁, s.WarmedH vm₁ → Pre ⟨T.setVm vm₁, locs, cells, slots⟩ (Value.ref b :: argsL).toArray) :
    (∃ (v : Option Value) (vm₁ : Vm) (B : Pt), s.WarmedH vm₁ ∧ Stand p l e R s m args below meth c B.U B.locs B.cells B.slots ∧ Post ⟨T.setVm vm₁, locs, cells, slots⟩ (Value.ref b :: argsL).toArray v B ∧
      ∀ target, Steps p.tables e below (B.U.setTop { g with pc := g.pc + 3, stack := v.toList ++ rest }) target → Steps p.tables e below (T.setTop g) target) ∨
    (∃ (q : Addr) (vm₁ : Vm) (B : Pt), s.WarmedH vm₁ ∧ Stand p l e R s m args below meth c B.U B.locs B.cells B.slots ∧ PostX ⟨T.setVm vm₁, locs, cells, slots⟩ (Value.ref b :: argsL).toArray q B ∧
      Steps p.tables e below (T.setTop g) ((B.U.setTop { g with stack := rest }).pushFrame (.throwing q))) := by
  obtain ⟨mk, methM, hnamed, hmethM, hstM, habM⟩ := Cond.instanceMethod_spec hinst
  obtain ⟨methM', cM, hmethM', -, -, -, -, -, -, hsigM⟩ := Cond.code_spec hnamed hcode
  cases hmethM.symm.trans hmethM'
  obtain ⟨c2, r2, m2, q1, q2, q3, q4, kP, hkP, hkPi⟩ := Cond.selects_spec hsel
  cases hcls.symm.trans q1
  cases (State.methodFound?_of_named hnamed hy).symm.trans q2
  cases hnamed.symm.trans q3
  have hselP : selectMethod e.platform s.vm cellB.cls mk = .method mk := by rw [Launch.admits_selectMethod X.admits]; exact q4
  obtain ⟨vm₁, X₁, hstep₁⟩ := X.invokevirtual hexec hown hlink hnamed hmethM hstM hkP hkPi hy (a := b) (cell := cellB) hcell
    (fun z h => by rw [h] at hobj; cases hobj) hselP hmethM habM hkP hkPi (g := g) hg (argsL := argsL) (rest := rest) (hlen _ hsigM) hstack hdg
  rcases hK m meth c ⟨T.setVm vm₁, locs, cells, slots⟩ { g with stack := rest } (.invokevirtual index) mk (Value.ref b :: argsL).toArray X₁ hg hsize hdg hW (X₁.named hnamed) (hpre vm₁ X₁.warmed) with ⟨v, B, X', hpost, hsteps⟩ | ⟨q, B, X', hpost, hsteps⟩
  · exact Or.inl ⟨v, vm₁, B, X₁.warmed, X', hpost, fun target h => hstep₁ _ fun acts => by rw [doInvoke_state]; exact hsteps.trans h⟩
  · exact Or.inr ⟨q, vm₁, B, X₁.warmed, X', hpost, hstep₁ _ fun acts => by rw [doInvoke_state]; exact hsteps⟩
theorem vx_callS (X : Stand p l e R s m args below meth c T locs cells slots) (hexec : p.tables.exec = Jvm.exec) {own : String} {index : Nat} {y : MethodName} {bytes : ByteArray} {maxL : Nat} {ret : Option FieldType}
    (hown : s.vm.findClass own = some m.cls) (hlink : (Cond.methodLink own index y).before args s = true) (hstat : (Cond.static y).before args s = true) (hinit : (Cond.initialized y.cls).before args s = true)
    (hcode : (Cond.code y bytes maxL ret).before args s = true) (hy : y.cls ≠ "java/lang/invoke/MethodHandle" ∧ y.cls ≠ "java/lang/invoke/VarHandle")
    {W9 : Nat} {Pre : Pt → Array Value → Prop} {Post : Pt → Array Value → Option Value → Pt → Prop} {PostX : Pt → Array Value → Addr → Pt → Prop} (hK : vx_Back l R p e below s args y 3 W9 Pre Post PostX)
    {g : JFrame} (hg : g.method = m) (hsize : g.locals.size = c.maxLocals) {argsL rest : List Value} (hlen : ∀ sig, parseMethodDescriptor y.desc = some sig → argsL.length = sig.parameters.length)
    (hstack : g.stack = argsL.reverse ++ rest) (hW : 2 * g.monitorRoom + (rest.map fun v => v.category).sum ≤ W9) (hdg : decode c.code g.pc = .ok (.invokestatic index, 3))
    (hpre : ∀ vm₁, s.WarmedH vm₁ → Pre ⟨T.setVm vm₁, locs, cells, slots⟩ argsL.toArray) :
    (∃ (v : Option Value) (vm₁ : Vm) (B : Pt), s.WarmedH vm₁ ∧ Stand p l e R s m args below meth c B.U B.locs B.cells B.slots ∧ Post ⟨T.setVm vm₁, locs, cells, slots⟩ argsL.toArray v B ∧
      ∀ target, Steps p.tables e below (B.U.setTop { g with pc := g.pc + 3, stack := v.toList ++ rest }) target → Steps p.tables e below (T.setTop g) target) ∨
    (∃ (q : Addr) (vm₁ : Vm) (B : Pt), s.WarmedH vm₁ ∧ Stand p l e R s m args below meth c B.U B.locs B.cells B.slots ∧ PostX ⟨T.setVm vm₁, locs, cells, slots⟩ argsL.toArray q B ∧
      Steps p.tables e below (T.setTop g) ((B.U.setTop { g with stack := rest }).pushFrame (.throwing q))) := by
  obtain ⟨mk, hnamed⟩ := Cond.code_named hcode
  obtain ⟨methM, cM, hmethM, -, -, -, -, -, -, hsigM⟩ := Cond.code_spec hnamed hcode
  have hstatic : methM.isStatic = true := Cond.static_spec hnamed hmethM hstat
  obtain ⟨kP, hkP, -⟩ := className_of_methodNamed hnamed
  have hinitP : kP.init = .initialized := Cond.initialized_spec (findClass_of_methodNamed hnamed) hkP hinit
  obtain ⟨vm₁, X₁, hstep₁⟩ := X.invokestatic hexec hown hlink hnamed hmethM hstatic hkP hinitP hy (g := g) hg (argsL := argsL) (rest := rest) (hlen _ hsigM) hstack hdg
  rcases hK m meth c ⟨T.setVm vm₁, locs, cells, slots⟩ { g with stack := rest } (.invokestatic index) mk argsL.toArray X₁ hg hsize hdg hW (X₁.named hnamed) (hpre vm₁ X₁.warmed) with ⟨v, B, X', hpost, hsteps⟩ | ⟨q, B, X', hpost, hsteps⟩
  · exact Or.inl ⟨v, vm₁, B, X₁.warmed, X', hpost, fun target h => hstep₁ _ fun acts => by rw [doInvoke_state]; exact hsteps.trans h⟩
  · exact Or.inr ⟨q, vm₁, B, X₁.warmed, X', hpost, hstep₁ _ fun acts => by rw [doInvoke_state]; exact hsteps⟩
end Calls
theorem vx_cls {s : State} {T : State} {vm₁ : Vm} {E : String} {k : ClassId} (hW : s.WarmedH vm₁) (h : (T.setVm vm₁).vm.findClass E = some k) : s.vm.findClass E = some k := by
  have h1 : vm₁.findClass E = some k := h
  rw [hW.alike.findClass] at h1
  exact h1
/-- the method's frame g, with q thrown over it -/
def vx_W (p : Program) (l : Launch) (e : Env) (R : Room) (s : State) (m : MethodId) (args : Array Value) (below : List Frame) (meth : Method) (c : Code) (H : Heap) (locs : List Loc) (cells slots : Nat) (Q : State → Prop) (g : JFrame) (q : Addr) : Prop :=
  ∀ T : State, T.heap = H → Stand p l e R s m args below meth c T locs cells slots → ∃ t, Steps p.tables e below ((T.setTop g).pushFrame (.throwing q)) t ∧ Q t
def vx_Run (p : Program) (l : Launch) (e : Env) (R : Room) (s : State) (m : MethodId) (args : Array Value) (below : List Frame) (meth : Method) (c : Code) (H : Heap) (locs : List Loc) (cells slots mc ms : Nat) (g : JFrame) (rest : List Value) (Qa : State → Outcome → State → Prop) (XC : String → State → State → Prop) (free : Addr → Prop) : Prop :=
  ∀ T : State, T.heap = H → Stand p l e R s m args below meth c T locs cells slots →
    (∃ (v : Option Value) (st₀ t T' : State) (L : List Loc), st₀.heap = H ∧ Stand p l e R s m args below meth c T' (locs ++ L) (cells + mc) (slots + ms) ∧ (∀ q ∈ L, free q.base) ∧ T'.heap = t.heap ∧ T'.vm = t.vm ∧ Qa st₀ (.returned v) t ∧
      Goes p e below T g T' { g with pc := g.pc + 3, stack := v.toList ++ rest }) ∨
    (∃ (q : Addr) (st₀ t T' : State) (L : List Loc) (E : String) (ce : Cell), st₀.heap = H ∧ Stand p l e R s m args below meth c T' (locs ++ L) (cells + mc) (slots + ms) ∧ (∀ z ∈ L, free z.base) ∧ T'.heap = t.heap ∧ T'.vm = t.vm ∧ XC E st₀ t ∧ t.heap[q]? = some ce ∧ ce.vm = .none ∧ s.vm.findClass E = some ce.cls ∧
      Steps p.tables e below (T.setTop g) ((T'.setTop { g with stack := rest }).pushFrame (.throwing q)))
def vx_X {S : Type} (px : S → Prop) (B : String → S → State → Prop) (A : Nat → Prop) : String → State → State → Prop := fun E st t => ∃ u : S, px u ∧ B E u t ∧ va_F A st t
section Runs
variable {p : Program} {l : Launch} {e : Env} {R : Room} {s : State} {m : MethodId} {args : Array Value} {below : List Frame} {meth : Method} {c : Code} {H : Heap} {locs : List Loc} {cells slots : Nat}
variable {y : MethodName} {bytes cc : ByteArray} {maxL nL mc ms n index : Nat} {ret : Option FieldType} {ws : List Cond} {rm : Room} {Pc : Array Value → State → Prop} {Qc : Array Value → State → Outcome → State → Prop} {XC : String → State → State → Prop} {free : Addr → Prop} {Ts : List Cond} {own C : String} {b : Addr} {As rest : List Value} {g : JFrame}
theorem vx_callBack (cb : CallB R s args own index y bytes maxL ret ws rm mc ms n) (hM : vx_Met l y ws rm Pc Qc XC mc ms free) (hbl : FrameBlind Pc) : vx_Back l R p e below s args y 3 8 (PreOf R mc ms Pc) (PostOf Qc mc ms free) (vx_Post XC mc ms free) := by
  obtain ⟨hrc, hrs, hfr, hlo, hws, hcw, -, hini, -⟩ := cb
  exact vx_back (bytes := bytes) (maxL := maxL) (ret := ret) hM hbl hrc hrs hfr hlo hws hcw (fun a' U hW => word_at hW (Or.inl (by first | rfl | simp [Cond.onTables, Cond.keeps, Cond.steady])) hini)
theorem vx_runV (S : CallFix p m c cc nL s args Ts own) (hM : vx_Met l y ws rm Pc Qc XC mc ms free) (cw : CallW R s args own C index y bytes maxL ret ws rm mc ms n) (hp : PreV s H C b Pc As)
    (hg : g.method = m) (hn : As.length = n) (hsize : g.locals.size = nL) (hstack : g.stack = As.reverse ++ .ref b :: rest) (hW : 2 * g.monitorRoom + (rest.map fun v => v.category).sum ≤ 8) (hdg : decode cc g.pc = .ok (.invokevirtual index, 3)) (hf : cells + mc ≤ R.cells ∧ slots + ms ≤ R.slots) :
    vx_Run p l e R s m args below meth c H locs cells slots mc ms g rest (Qc (Value.ref b :: As).toArray) XC free := by
  have hK : vx_Back l R p e below s args y 3 8 (PreOf R mc ms Pc) (PostOf Qc mc ms free) (vx_Post XC mc ms free) := vx_callBack cw.1 hM hp.1
  obtain ⟨⟨-, -, -, -, -, -, hcode, -, hy, hlen, hl⟩, hin, hse⟩ := cw
  obtain ⟨hx, hb, hml, ho, -⟩ := S
  obtain ⟨-, ⟨cellB, hcB, hoB, hclB⟩, hPc⟩ := hp
  intro T hT X
  rcases vx_callV X hx (C := C) (bytes := bytes) (maxL := maxL) (ret := ret) ho hl hin hse hcode hy hK (by rw [hT]; exact hcB) hoB hclB hg (hsize.trans hml.symm) (argsL := As) (rest := rest) (fun sig h => hn.trans (hlen sig h)) hstack hW (by rw [hb]; exact hdg)
    (fun vm₁ hW₁ => ⟨hf.1, hf.2, hPc (T.setVm vm₁) hT hW₁⟩) with ⟨v, vm₁, ⟨U', l2, c2, s2⟩, hW₁, X', ⟨g', mk, t, L, e1, e2, hq, h1, hL, h2, h3⟩, st⟩ | ⟨q, vm₁, ⟨U', l2, c2, s2⟩, hW₁, X', ⟨g', mk, t, L, E, ce, e1, e2, hq, hce, hcv, hcl, h1, hL, h2, h3⟩, st⟩
  · dsimp only [Pt.U, Pt.locs, Pt.cells, Pt.slots] at X' e1 e2 h1 h2 h3 st
    subst h1; subst h2; subst h3
    exact Or.inl ⟨v, (T.setVm vm₁).calling g' mk (Value.ref b :: As).toArray, t, U', L, hT, X', hL, e1, e2, hq, st⟩
  · dsimp only [Pt.U, Pt.locs, Pt.cells, Pt.slots] at X' e1 e2 h1 h2 h3 st hcl
    subst h1; subst h2; subst h3
    exact Or.inr ⟨q, (T.setVm vm₁).calling g' mk (Value.ref b :: As).toArray, t, U', L, E, ce, hT, X', hL, e1, e2, hq, hce, hcv, vx_cls hW₁ hcl, st⟩
theorem vx_runS (S : CallFix p m c cc nL s args Ts own) (hM : vx_Met l y ws rm Pc Qc XC mc ms free) (cw : CallB R s args own index y bytes maxL ret ws rm mc ms n ∧ (Cond.static y).before args s = true) (hp : PreS s H Pc As)
    (hg : g.method = m) (hn : As.length = n) (hsize : g.locals.size = nL) (hstack : g.stack = As.reverse ++ rest) (hW : 2 * g.monitorRoom + (rest.map fun v => v.category).sum ≤ 8) (hdg : decode cc g.pc = .ok (.invokestatic index, 3)) (hf : cells + mc ≤ R.cells ∧ slots + ms ≤ R.slots) :
    vx_Run p l e R s m args below meth c H locs cells slots mc ms g rest (Qc As.toArray) XC free := by
  have hK : vx_Back l R p e below s args y 3 8 (PreOf R mc ms Pc) (PostOf Qc mc ms free) (vx_Post XC mc ms free) := vx_callBack cw.1 hM hp.1
  obtain ⟨⟨-, -, -, -, -, -, hcode, hini, hy, hlen, hl⟩, hstt⟩ := cw
  obtain ⟨hx, hb, hml, ho, -⟩ := S
  intro T hT X
  rcases vx_callS X hx (bytes := bytes) (maxL := maxL) (ret := ret) ho hl hstt hini hcode hy hK hg (hsize.trans hml.symm) (argsL := As) (rest := rest) (fun sig h => hn.trans (hlen sig h)) hstack hW (by rw [hb]; exact hdg)
    (fun vm₁ hW₁ => ⟨hf.1, hf.2, hp.2 (T.setVm vm₁) hT hW₁⟩) with ⟨v, vm₁, ⟨U', l2, c2, s2⟩, hW₁, X', ⟨g', mk, t, L, e1, e2, hq, h1, hL, h2, h3⟩, st⟩ | ⟨q, vm₁, ⟨U', l2, c2, s2⟩, hW₁, X', ⟨g', mk, t, L, E, ce, e1, e2, hq, hce, hcv, hcl, h1, hL, h2, h3⟩, st⟩
  · dsimp only [Pt.U, Pt.locs, Pt.cells, Pt.slots] at X' e1 e2 h1 h2 h3 st
    subst h1; subst h2; subst h3
    exact Or.inl ⟨v, (T.setVm vm₁).calling g' mk As.toArray, t, U', L, hT, X', hL, e1, e2, hq, st⟩
  · dsimp only [Pt.U, Pt.locs, Pt.cells, Pt.slots] at X' e1 e2 h1 h2 h3 st hcl
    subst h1; subst h2; subst h3
    exact Or.inr ⟨q, (T.setVm vm₁).calling g' mk As.toArray, t, U', L, E, ce, hT, X', hL, e1, e2, hq, hce, hcv, vx_cls hW₁ hcl, st⟩
end Runs
section Rows
variable {p : Program} {l : Launch} {e : Env} {R : Room} {s : State} {m : MethodId} {args : Array Value} {below : List Frame} {meth : Method} {c : Code} {H : Heap} {locs : List Loc} {cells slots : Nat} {Q : State → Prop}
variable {mc ms : Nat} {free : Addr → Prop} {A0 A1 : Nat → Prop} {H0 : Heap} {a : Array Value} {pc : Nat} {ls : Array Slot} {st0 rest : List Value}
theorem vx_keep {st₀ t T' : State} {L : List Loc} (h0 : st₀.heap = H) (e1 : T'.heap = t.heap) (hS : va_S A0 H0 H locs) (hA : ∀ q, q < H.size → A1 q → A0 q) (hf : ∀ q, free q → A0 q) (hL : ∀ q ∈ L, free q.base) (hF : va_F A1 st₀ t) :
    H.size ≤ T'.heap.size ∧ (∀ q : Nat, q < H.size → ¬ A1 q → T'.heap[q]? = H[q]?) ∧ va_S A0 H0 T'.heap (locs ++ L) := by
  obtain ⟨hz, hk⟩ := hF
  rw [h0] at hz hk
  exact ⟨by rw [e1]; exact hz, fun q h1 h2 => by rw [e1]; exact hk q h1 h2,
    ⟨Nat.le_trans hS.1 (by rw [e1]; exact hz), fun q h1 h2 => by rw [e1, hk q (Nat.lt_of_lt_of_le h1 hS.1) (fun z => h2 (hA q (Nat.lt_of_lt_of_le h1 hS.1) z))]; exact hS.2.1 q h1 h2, fun q hq => by
      rcases List.mem_append.mp hq with h | h
      · exact hS.2.2 q h
      · exact hf _ (hL q h)⟩⟩
theorem vx_calli {S SX : Type} {post : Int32 → S → Prop} {px : SX → Prop} {B : S → State → Prop} {BX : String → SX → State → Prop} {AX : Nat → Prop} (hr : vx_Run p l e R s m args below meth c H locs cells slots mc ms (F0 m pc ls st0) rest (va_Qi post B A1 a) (vx_X px BX AX) free) (hS : va_S A0 H0 H locs) (hA : ∀ q, q < H.size → A1 q → A0 q) (hf : ∀ q, free q → A0 q) (hAX : ∀ q, q < H.size → AX q → A0 q)
    (kx : ∀ (E : String) (ce : Cell) (q9 : Addr) (u : SX) (t : State) (H1 : Heap) (locs1 : List Loc), t.heap = H1 → s.vm.Alike t.vm → px u → BX E u t → H.size ≤ H1.size → (∀ q : Nat, q < H.size → ¬ AX q → H1[q]? = H[q]?) → va_S A0 H0 H1 locs1 → H1[q9]? = some ce → ce.vm = .none → s.vm.findClass E = some ce.cls → vx_W p l e R s m args below meth c H1 locs1 (cells + mc) (slots + ms) Q (F0 m pc ls rest) q9)
    (kk : ∀ (r : Int32) (u : S) (t : State) (H1 : Heap) (locs1 : List Loc), t.heap = H1 → s.vm.Alike t.vm → post r u → B u t → H.size ≤ H1.size → (∀ q : Nat, q < H.size → ¬ A1 q → H1[q]? = H[q]?) → va_S A0 H0 H1 locs1 → W p l e R s m args below meth c H1 locs1 (cells + mc) (slots + ms) Q (F0 m (pc + 3) ls (.int r :: rest))) : W p l e R s m args below meth c H locs cells slots Q (F0 m pc ls st0) := by
  intro T hT X
  rcases hr T hT X with ⟨v, st₀, t, T', L, h0, X', hL, e1, e2, ⟨⟨r, u, hv, hp, hb⟩, hF⟩, st⟩ | ⟨q, st₀, t, T', L, E, ce, h0, X', hL, e1, e2, ⟨u, hp, hb, hF⟩, hce, hcv, hcl, st⟩
  · cases hv
    obtain ⟨k1, k2, k3⟩ := vx_keep h0 e1 hS hA hf hL hF
    obtain ⟨t2, a1, b1⟩ := kk r u t T'.heap (locs ++ L) e1.symm (by rw [← e2]; exact X'.warmed.alike) hp hb k1 k2 k3 T' rfl X'
    exact ⟨t2, st t2 a1, b1⟩
  · obtain ⟨k1, k2, k3⟩ := vx_keep h0 e1 hS hAX hf hL hF
    obtain ⟨t2, a1, b1⟩ := kx E ce q u t T'.heap (locs ++ L) e1.symm (by rw [← e2]; exact X'.warmed.alike) hp hb k1 k2 k3 (by rw [e1]; exact hce) hcv hcl T' rfl X'
    exact ⟨t2, st.trans a1, b1⟩
theorem vx_calll {S SX : Type} {post : Int64 → S → Prop} {px : SX → Prop} {B : S → State → Prop} {BX : String → SX → State → Prop} {AX : Nat → Prop} (hr : vx_Run p l e R s m args below meth c H locs cells slots mc ms (F0 m pc ls st0) rest (va_Ql post B A1 a) (vx_X px BX AX) free) (hS : va_S A0 H0 H locs) (hA : ∀ q, q < H.size → A1 q → A0 q) (hf : ∀ q, free q → A0 q) (hAX : ∀ q, q < H.size → AX q → A0 q)
    (kx : ∀ (E : String) (ce : Cell) (q9 : Addr) (u : SX) (t : State) (H1 : Heap) (locs1 : List Loc), t.heap = H1 → s.vm.Alike t.vm → px u → BX E u t → H.size ≤ H1.size → (∀ q : Nat, q < H.size → ¬ AX q → H1[q]? = H[q]?) → va_S A0 H0 H1 locs1 → H1[q9]? = some ce → ce.vm = .none → s.vm.findClass E = some ce.cls → vx_W p l e R s m args below meth c H1 locs1 (cells + mc) (slots + ms) Q (F0 m pc ls rest) q9)
    (kk : ∀ (r : Int64) (u : S) (t : State) (H1 : Heap) (locs1 : List Loc), t.heap = H1 → s.vm.Alike t.vm → post r u → B u t → H.size ≤ H1.size → (∀ q : Nat, q < H.size → ¬ A1 q → H1[q]? = H[q]?) → va_S A0 H0 H1 locs1 → W p l e R s m args below meth c H1 locs1 (cells + mc) (slots + ms) Q (F0 m (pc + 3) ls (.long r :: rest))) : W p l e R s m args below meth c H locs cells slots Q (F0 m pc ls st0) := by
  intro T hT X
  rcases hr T hT X with ⟨v, st₀, t, T', L, h0, X', hL, e1, e2, ⟨⟨r, u, hv, hp, hb⟩, hF⟩, st⟩ | ⟨q, st₀, t, T', L, E, ce, h0, X', hL, e1, e2, ⟨u, hp, hb, hF⟩, hce, hcv, hcl, st⟩
  · cases hv
    obtain ⟨k1, k2, k3⟩ := vx_keep h0 e1 hS hA hf hL hF
    obtain ⟨t2, a1, b1⟩ := kk r u t T'.heap (locs ++ L) e1.symm (by rw [← e2]; exact X'.warmed.alike) hp hb k1 k2 k3 T' rfl X'
    exact ⟨t2, st t2 a1, b1⟩
  · obtain ⟨k1, k2, k3⟩ := vx_keep h0 e1 hS hAX hf hL hF
    obtain ⟨t2, a1, b1⟩ := kx E ce q u t T'.heap (locs ++ L) e1.symm (by rw [← e2]; exact X'.warmed.alike) hp hb k1 k2 k3 (by rw [e1]; exact hce) hcv hcl T' rfl X'
    exact ⟨t2, st.trans a1, b1⟩
theorem vx_callf {S SX : Type} {post : UInt32 → S → Prop} {px : SX → Prop} {B : S → State → Prop} {BX : String → SX → State → Prop} {AX : Nat → Prop} (hr : vx_Run p l e R s m args below meth c H locs cells slots mc ms (F0 m pc ls st0) rest (va_Qf post B A1 a) (vx_X px BX AX) free) (hS : va_S A0 H0 H locs) (hA : ∀ q, q < H.size → A1 q → A0 q) (hf : ∀ q, free q → A0 q) (hAX : ∀ q, q < H.size → AX q → A0 q)
    (kx : ∀ (E : String) (ce : Cell) (q9 : Addr) (u : SX) (t : State) (H1 : Heap) (locs1 : List Loc), t.heap = H1 → s.vm.Alike t.vm → px u → BX E u t → H.size ≤ H1.size → (∀ q : Nat, q < H.size → ¬ AX q → H1[q]? = H[q]?) → va_S A0 H0 H1 locs1 → H1[q9]? = some ce → ce.vm = .none → s.vm.findClass E = some ce.cls → vx_W p l e R s m args below meth c H1 locs1 (cells + mc) (slots + ms) Q (F0 m pc ls rest) q9)
    (kk : ∀ (r : UInt32) (u : S) (t : State) (H1 : Heap) (locs1 : List Loc), t.heap = H1 → s.vm.Alike t.vm → post r u → B u t → H.size ≤ H1.size → (∀ q : Nat, q < H.size → ¬ A1 q → H1[q]? = H[q]?) → va_S A0 H0 H1 locs1 → W p l e R s m args below meth c H1 locs1 (cells + mc) (slots + ms) Q (F0 m (pc + 3) ls (.float r :: rest))) : W p l e R s m args below meth c H locs cells slots Q (F0 m pc ls st0) := by
  intro T hT X
  rcases hr T hT X with ⟨v, st₀, t, T', L, h0, X', hL, e1, e2, ⟨⟨r, u, hv, hp, hb⟩, hF⟩, st⟩ | ⟨q, st₀, t, T', L, E, ce, h0, X', hL, e1, e2, ⟨u, hp, hb, hF⟩, hce, hcv, hcl, st⟩
  · cases hv
    obtain ⟨k1, k2, k3⟩ := vx_keep h0 e1 hS hA hf hL hF
    obtain ⟨t2, a1, b1⟩ := kk r u t T'.heap (locs ++ L) e1.symm (by rw [← e2]; exact X'.warmed.alike) hp hb k1 k2 k3 T' rfl X'
    exact ⟨t2, st t2 a1, b1⟩
  · obtain ⟨k1, k2, k3⟩ := vx_keep h0 e1 hS hAX hf hL hF
    obtain ⟨t2, a1, b1⟩ := kx E ce q u t T'.heap (locs ++ L) e1.symm (by rw [← e2]; exact X'.warmed.alike) hp hb k1 k2 k3 (by rw [e1]; exact hce) hcv hcl T' rfl X'
    exact ⟨t2, st.trans a1, b1⟩
theorem vx_calld {S SX : Type} {post : UInt64 → S → Prop} {px : SX → Prop} {B : S → State → Prop} {BX : String → SX → State → Prop} {AX : Nat → Prop} (hr : vx_Run p l e R s m args below meth c H locs cells slots mc ms (F0 m pc ls st0) rest (va_Qd post B A1 a) (vx_X px BX AX) free) (hS : va_S A0 H0 H locs) (hA : ∀ q, q < H.size → A1 q → A0 q) (hf : ∀ q, free q → A0 q) (hAX : ∀ q, q < H.size → AX q → A0 q)
    (kx : ∀ (E : String) (ce : Cell) (q9 : Addr) (u : SX) (t : State) (H1 : Heap) (locs1 : List Loc), t.heap = H1 → s.vm.Alike t.vm → px u → BX E u t → H.size ≤ H1.size → (∀ q : Nat, q < H.size → ¬ AX q → H1[q]? = H[q]?) → va_S A0 H0 H1 locs1 → H1[q9]? = some ce → ce.vm = .none → s.vm.findClass E = some ce.cls → vx_W p l e R s m args below meth c H1 locs1 (cells + mc) (slots + ms) Q (F0 m pc ls rest) q9)
    (kk : ∀ (r : UInt64) (u : S) (t : State) (H1 : Heap) (locs1 : List Loc), t.heap = H1 → s.vm.Alike t.vm → post r u → B u t → H.size ≤ H1.size → (∀ q : Nat, q < H.size → ¬ A1 q → H1[q]? = H[q]?) → va_S A0 H0 H1 locs1 → W p l e R s m args below meth c H1 locs1 (cells + mc) (slots + ms) Q (F0 m (pc + 3) ls (.double r :: rest))) : W p l e R s m args below meth c H locs cells slots Q (F0 m pc ls st0) := by
  intro T hT X
  rcases hr T hT X with ⟨v, st₀, t, T', L, h0, X', hL, e1, e2, ⟨⟨r, u, hv, hp, hb⟩, hF⟩, st⟩ | ⟨q, st₀, t, T', L, E, ce, h0, X', hL, e1, e2, ⟨u, hp, hb, hF⟩, hce, hcv, hcl, st⟩
  · cases hv
    obtain ⟨k1, k2, k3⟩ := vx_keep h0 e1 hS hA hf hL hF
    obtain ⟨t2, a1, b1⟩ := kk r u t T'.heap (locs ++ L) e1.symm (by rw [← e2]; exact X'.warmed.alike) hp hb k1 k2 k3 T' rfl X'
    exact ⟨t2, st t2 a1, b1⟩
  · obtain ⟨k1, k2, k3⟩ := vx_keep h0 e1 hS hAX hf hL hF
    obtain ⟨t2, a1, b1⟩ := kx E ce q u t T'.heap (locs ++ L) e1.symm (by rw [← e2]; exact X'.warmed.alike) hp hb k1 k2 k3 (by rw [e1]; exact hce) hcv hcl T' rfl X'
    exact ⟨t2, st.trans a1, b1⟩
theorem vx_callv {S SX : Type} {post : S → Prop} {px : SX → Prop} {B : S → State → Prop} {BX : String → SX → State → Prop} {AX : Nat → Prop} (hr : vx_Run p l e R s m args below meth c H locs cells slots mc ms (F0 m pc ls st0) rest (va_Qv post B A1 a) (vx_X px BX AX) free) (hS : va_S A0 H0 H locs) (hA : ∀ q, q < H.size → A1 q → A0 q) (hf : ∀ q, free q → A0 q) (hAX : ∀ q, q < H.size → AX q → A0 q)
    (kx : ∀ (E : String) (ce : Cell) (q9 : Addr) (u : SX) (t : State) (H1 : Heap) (locs1 : List Loc), t.heap = H1 → s.vm.Alike t.vm → px u → BX E u t → H.size ≤ H1.size → (∀ q : Nat, q < H.size → ¬ AX q → H1[q]? = H[q]?) → va_S A0 H0 H1 locs1 → H1[q9]? = some ce → ce.vm = .none → s.vm.findClass E = some ce.cls → vx_W p l e R s m args below meth c H1 locs1 (cells + mc) (slots + ms) Q (F0 m pc ls rest) q9)
    (kk : ∀ (u : S) (t : State) (H1 : Heap) (locs1 : List Loc), t.heap = H1 → s.vm.Alike t.vm → post u → B u t → H.size ≤ H1.size → (∀ q : Nat, q < H.size → ¬ A1 q → H1[q]? = H[q]?) → va_S A0 H0 H1 locs1 → W p l e R s m args below meth c H1 locs1 (cells + mc) (slots + ms) Q (F0 m (pc + 3) ls (rest))) : W p l e R s m args below meth c H locs cells slots Q (F0 m pc ls st0) := by
  intro T hT X
  rcases hr T hT X with ⟨v, st₀, t, T', L, h0, X', hL, e1, e2, ⟨⟨u, hv, hp, hb⟩, hF⟩, st⟩ | ⟨q, st₀, t, T', L, E, ce, h0, X', hL, e1, e2, ⟨u, hp, hb, hF⟩, hce, hcv, hcl, st⟩
  · cases hv
    obtain ⟨k1, k2, k3⟩ := vx_keep h0 e1 hS hA hf hL hF
    obtain ⟨t2, a1, b1⟩ := kk u t T'.heap (locs ++ L) e1.symm (by rw [← e2]; exact X'.warmed.alike) hp hb k1 k2 k3 T' rfl X'
    exact ⟨t2, st t2 a1, b1⟩
  · obtain ⟨k1, k2, k3⟩ := vx_keep h0 e1 hS hAX hf hL hF
    obtain ⟨t2, a1, b1⟩ := kx E ce q u t T'.heap (locs ++ L) e1.symm (by rw [← e2]; exact X'.warmed.alike) hp hb k1 k2 k3 (by rw [e1]; exact hce) hcv hcl T' rfl X'
    exact ⟨t2, st.trans a1, b1⟩
/-- caught by the row x of this method's table; the rows ahead don't take it -/
theorem vx_catch {own name : String} {E : String} {ce : Cell} {q : Addr} (hown : s.vm.findClass own = some m.cls) (pre : List ExceptionTableEntry) (x : ExceptionTableEntry) (suf : List ExceptionTableEntry) (hsplit : c.exceptionTable.toList = pre ++ x :: suf)
    (hpass : ∀ z ∈ pre, covers z pc = false ∨ (z.catchType ≠ 0 ∧ ∃ nm : String, (Cond.classLink own z.catchType nm).before args s = true ∧ va_Nc E nm s)) (hx : covers x pc = true) (h0 : x.catchType ≠ 0)
    (hlink : (Cond.classLink own x.catchType name).before args s = true) (hcast : (Cond.castable E name).before args s = true) (hcell : H[q]? = some ce) (hv : ce.vm = .none) (hcl : s.vm.findClass E = some ce.cls)
    (kk : W p l e R s m args below meth c H locs cells slots Q (F0 m x.handlerPc ls [.ref q])) : vx_W p l e R s m args below meth c H locs cells slots Q (F0 m pc ls rest) q := by
  intro T hT X
  have hpl : e.platform.magicAccessors = ({} : Platform).magicAccessors := by rw [X.admits.platform]
  obtain ⟨c3, c4, hc3, hc4, hasg⟩ := Cond.castable_spec hcast
  cases Option.some.inj (hc3.symm.trans hcl)
  obtain ⟨c5, hc5, hcl5⟩ := Cond.classLink_spec hown hlink e.platform hpl
  cases Option.some.inj (hc4.symm.trans hc5)
  obtain ⟨vm', X', st⟩ := X.thenCaughtThrough q (g := F0 m pc ls rest) rfl (Steps.refl _) (by rw [hT]; exact hcell) (by rw [hv]; rfl) (by obtain ⟨k9, h9, -⟩ := Vm.findClass_spec hcl; exact ⟨k9, h9⟩) pre x suf hsplit
    (fun z hz => by
      rcases hpass z hz with h | ⟨hz0, nm, hl1, hn1⟩
      · exact Or.inl h
      · obtain ⟨c6, hc6, hcl6⟩ := Cond.classLink_spec hown hl1 e.platform hpl
        obtain ⟨a8, b8, h1, h2, h3⟩ := hn1
        cases Option.some.inj (h1.symm.trans hcl)
        cases Option.some.inj (h2.symm.trans hc6)
        exact Or.inr ⟨hz0, _, hcl6, h3⟩) hx (Or.inr ⟨h0, c4, hcl5, hasg⟩)
  obtain ⟨t, a1, b1⟩ := kk (T.setVm vm') hT X'
  exact ⟨t, st.trans a1, b1⟩
end Rows
section Ends
variable {p : Program} {l : Launch} {e : Env} {R : Room} {s : State} {m : MethodId} {args : Array Value} {below : List Frame} {meth : Method} {c : Code} {H : Heap} {locs : List Loc} {cells slots : Nat} {Q : State → Prop}
variable {mc ms : Nat} {free : Addr → Prop} {A0 A1 : Nat → Prop} {H0 : Heap} {a : Array Value} {ls : Array Slot} {st0 rest : List Value}
variable {Qc : Array Value → State → Outcome → State → Prop} {XC : String → State → State → Prop}
/-- what a body that may throw owes at its end -/
def vx_MQ (below : List Frame) (Qc : Array Value → State → Outcome → State → Prop) (XC : String → State → State → Prop) (a : Array Value) (s : State) (mc ms : Nat) (free : Addr → Prop) : State → Prop := fun t =>
  ∃ o, t.status = .running ∧ Ended t below o ∧ vx_Q Qc XC mc ms free a s o t
theorem vx_ret {g : JFrame} {mc ms : Nat} (k : W p l e R s m args below meth c H locs cells slots (MQ below Qc args s mc ms free) g) : W p l e R s m args below meth c H locs cells slots (vx_MQ below Qc XC args s mc ms free) g := by
  intro T hT X
  obtain ⟨t, a1, o, b1, b2, b3, b4⟩ := k T hT X
  exact ⟨t, a1, o, b1, b2, Or.inl ⟨b3, b4⟩⟩
/-- not caught here: it goes on to the caller -/
theorem vx_widen {g : JFrame} {q : Addr} {k n : Nat} (h1 : cells ≤ k) (h2 : slots ≤ n) (kk : vx_W p l e R s m args below meth c H locs k n Q g q) : vx_W p l e R s m args below meth c H locs cells slots Q g q := fun T hT X => kk T hT (stand_widen X h1 h2)
theorem vx_out {pc : Nat} {E : String} {ce : Cell} {q : Addr} {mc ms : Nat} (hout : ∀ x ∈ c.exceptionTable.toList, covers x pc = false) (hlocks : meth.locks = false) (hcell : H[q]? = some ce) (hv : ce.vm = .none) (hcl : s.vm.findClass E = some ce.cls)
    (hx : ∀ t : State, t.heap = H → s.vm.Alike t.vm → XC E s t) (hf : ∀ z ∈ locs, free z.base) (hc : cells ≤ mc) (hs : slots ≤ ms) :
    vx_W p l e R s m args below meth c H locs cells slots (vx_MQ below Qc XC args s mc ms free) (F0 m pc ls rest) q := by
  intro T hT X
  obtain ⟨st1, hrun, hend, hW, hsm⟩ := X.leaveThrown q (g := F0 m pc ls rest) rfl rfl rfl hout hlocks
  have hcell9 : (T.setFrames (.throwing q :: below)).heap[q]? = some ce := by
    show T.heap[q]? = some ce
    rw [hT]; exact hcell
  exact ⟨_, st1, .threw q, hrun, hend, Or.inr ⟨q, rfl, E, ce, locs, hx _ hT hW.alike, hcell9, hv, hcl, hW, hsm.mono hc hs, hf⟩⟩
theorem vx_frame {U : State} {k n : Nat} (h : s.sameButNew ({ U with vm := s.vm } : State) locs k n) : s.heap.size ≤ U.heap.size ∧ ∀ q : Nat, q < s.heap.size → (∀ z ∈ locs, z.base ≠ q) → U.heap[q]? = s.heap[q]? := by
  obtain ⟨-, h2, -, -, -, h6⟩ := h
  refine ⟨h2, fun q hq hz => ?_⟩
  obtain ⟨c9, e1, e2, e3, e4⟩ := h6 q _ (Array.getElem?_eq_getElem hq)
  have hs : c9.slots = (s.heap[q]).slots := Array.ext_getElem? fun i => e4 i fun hm => hz _ hm rfl
  have h9 : c9 = s.heap[q] := by
    rw [hs] at e2
    exact e2
  have e5 : U.heap[q]? = some c9 := e1
  rw [e5, h9, Array.getElem?_eq_getElem hq]
/-- the words of a throw but the four that speak of the heap -/
def vx_no (w : Cond) : Bool := decide (w ≠ .isRef (.static Bundle.tN "UNASSIGNED_STACK" Bundle.steD)) && decide (w ≠ .isRef (.static Bundle.tN "SUPPRESSED_SENTINEL" Bundle.listD)) && decide (w ≠ .laysStatic Bundle.tN "UNASSIGNED_STACK" Bundle.steD) && decide (w ≠ .laysStatic Bundle.tN "SUPPRESSED_SENTINEL" Bundle.listD)
def vx_at0 (own : String) (ic : Nat) (X : String) (names : List String) : List Cond := (Bundle.ownAtoms0 own ic X names).filter vx_no
def vx_atS (own : String) (ic : Nat) (X : String) (names : List String) : List Cond := (Bundle.ownAtoms own ic X names).filter vx_no
/-- a word that the tables alone decide, or a good one -/
def vx_ot (w : Cond) : Bool := w.onTables || goodWord w
theorem vx_ot_at {args a' : Array Value} {s U : State} {w : Cond} (hW : s.WarmedH U.vm) (hvm : s.vm = U.vm) (hg : vx_ot w = true) (h : w.before args s = true) : w.before a' U = true := by
  simp only [vx_ot, Bool.or_eq_true] at hg
  rcases hg with hg | hg
  · exact va_tabs hg hvm h
  · exact word_at hW (good_of_word hg) h
/-- a list's words: the good ones out of the method's own list, the others by premises of their own -/
theorem vx_hat {args : Array Value} {s : State} {L B : List Cond} (h1 : ∀ w ∈ L.filter goodWord, w.before args s = true) (h2 : ∀ w ∈ L.filter (fun w => !goodWord w), w ∈ B) (h3 : ∀ w ∈ B, w.before args s = true) : ∀ w ∈ L, w.before args s = true := by
  intro w hw
  by_cases g : goodWord w = true
  · exact h1 w (List.mem_filter.mpr ⟨hw, g⟩)
  · refine h3 w (h2 w (List.mem_filter.mpr ⟨hw, ?_⟩))
    show (!goodWord w) = true
    cases hgw : goodWord w
    · rfl
    · exact absurd hgw g
theorem vx_c {args : Array Value} {s : State} {w : Cond} {B : List Cond} (h : w.before args s = true) (t : ∀ w ∈ B, w.before args s = true) : ∀ w' ∈ w :: B, w'.before args s = true := fun w' h' => (List.mem_cons.mp h').elim (fun e => by rw [e]; exact h) (t w')
theorem vx_n {args : Array Value} {s : State} : ∀ w ∈ ([] : List Cond), w.before args s = true := fun _ h => nomatch h
theorem vx_own {args : Array Value} {s : State} {L : List Cond} (h1 : ∀ w ∈ L.filter vx_no, w.before args s = true)
    (hU : (Cond.isRef (.static Bundle.tN "UNASSIGNED_STACK" Bundle.steD)).before args s = true) (hN : (Cond.isRef (.static Bundle.tN "SUPPRESSED_SENTINEL" Bundle.listD)).before args s = true)
    (lU : (Cond.laysStatic Bundle.tN "UNASSIGNED_STACK" Bundle.steD).before args s = true) (lN : (Cond.laysStatic Bundle.tN "SUPPRESSED_SENTINEL" Bundle.listD).before args s = true) : ∀ w ∈ L, w.before args s = true := by
  intro w hw
  by_cases e1 : w = .isRef (.static Bundle.tN "UNASSIGNED_STACK" Bundle.steD)
  · rw [e1]; exact hU
  · by_cases e2 : w = .isRef (.static Bundle.tN "SUPPRESSED_SENTINEL" Bundle.listD)
    · rw [e2]; exact hN
    · by_cases e3 : w = .laysStatic Bundle.tN "UNASSIGNED_STACK" Bundle.steD
      · rw [e3]; exact lU
      · by_cases e4 : w = .laysStatic Bundle.tN "SUPPRESSED_SENTINEL" Bundle.listD
        · rw [e4]; exact lN
        · exact h1 w (List.mem_filter.mpr ⟨hw, by unfold vx_no; rw [decide_eq_true e1, decide_eq_true e2, decide_eq_true e3, decide_eq_true e4]; rfl⟩)
/-- where a static field lies, its class's statics cell in H -/
def vx_L (C n d : String) (A : Nat → Prop) (U : State) (H : Heap) : Prop := ∃ (c : ClassId) (k : Class) (i : Nat) (f : Field) (a : Nat) (cell : Cell), U.vm.findClass C = some c ∧ U.fieldFound? C n d = some (c, k, i, f) ∧ f.isStatic = true ∧ k.statics = some a ∧ H[a]? = some cell ∧ cell.vm.isStatics = true ∧ cell.cls = c ∧ f.slot < cell.slots.size ∧ k.staticTypes[f.slot]? = some f.type ∧ ¬ A a
theorem vx_L.moved {C n d : String} {A : Nat → Prop} {u U : State} {H : Heap} (hvm : u.vm.Alike U.vm) (h : vx_L C n d A u H) : vx_L C n d A U H := by
  obtain ⟨c, k, i, f, a, cell, h1, h2, h3, h4, h5, h6, h7, h8, h9, h10⟩ := h
  obtain ⟨k', hi', he⟩ := State.fieldFound?_setVm hvm h2
  exact ⟨c, k', i, f, a, cell, by rw [hvm.findClass]; exact h1, hi', h3, by rw [he]; exact h4, h5, h6, h7, h8, by rw [he]; exact h9, h10⟩
theorem vx_L.kept {C n d : String} {A : Nat → Prop} {U : State} {H H1 : Heap} (h : vx_L C n d A U H) (hq : ∀ a : Nat, a < H.size → ¬ A a → H1[a]? = H[a]?) : vx_L C n d A U H1 := by
  obtain ⟨c, k, i, f, a, cell, h1, h2, h3, h4, h5, h6, h7, h8, h9, h10⟩ := h
  exact ⟨c, k, i, f, a, cell, h1, h2, h3, h4, by rw [hq a (Array.getElem?_eq_some_iff.mp h5).1 h10]; exact h5, h6, h7, h8, h9, h10⟩
theorem vx_L.narrow {C n d : String} {A B : Nat → Prop} {U : State} {H : Heap} (h : vx_L C n d A U H) (hAB : ∀ q, B q → A q) : vx_L C n d B U H := by
  obtain ⟨c, k, i, f, a, cell, h1, h2, h3, h4, h5, h6, h7, h8, h9, h10⟩ := h
  exact ⟨c, k, i, f, a, cell, h1, h2, h3, h4, h5, h6, h7, h8, h9, fun z => h10 (hAB _ z)⟩
theorem vx_L.word {C n d : String} {A : Nat → Prop} {s : State} {args : Array Value} (h : vx_L C n d A s s.heap) : (Cond.laysStatic C n d).before args s = true := by
  obtain ⟨c, k, i, f, a, cell, h1, h2, h3, h4, h5, h6, h7, h8, h9, -⟩ := h
  show (Cond.laysStatic C n d).holds args s none s [] = true
  exact Cond.laysStatic_of h1 h2 h3 h4 h5 h6 h7 h8 h9
/-- .. and what it holds: null or some reference -/
def vx_Zq (C n d : String) (A : Nat → Prop) (U : State) (H : Heap) : Prop := va_Zq C n d A U H ∧ vx_L C n d A U H
theorem vx_Zq.moved {C n d : String} {A : Nat → Prop} {u U : State} {H : Heap} (hvm : u.vm.Alike U.vm) (h : vx_Zq C n d A u H) : vx_Zq C n d A U H := ⟨va_Zq.moved hvm h.1, vx_L.moved hvm h.2⟩
theorem vx_Zq.kept {C n d : String} {A : Nat → Prop} {U : State} {H H1 : Heap} (h : vx_Zq C n d A U H) (hq : ∀ a : Nat, a < H.size → ¬ A a → H1[a]? = H[a]?) : vx_Zq C n d A U H1 := ⟨va_Zq.kept h.1 hq, vx_L.kept h.2 hq⟩
theorem vx_Zq.narrow {C n d : String} {A B : Nat → Prop} {U : State} {H : Heap} (h : vx_Zq C n d A U H) (hAB : ∀ q, B q → A q) : vx_Zq C n d B U H := ⟨va_Zq.narrow h.1 hAB, vx_L.narrow h.2 hAB⟩
theorem vx_Zqof {args : Array Value} {s : State} {C n d : String} {A : Nat → Prop} (hl : (Cond.laysStatic C n d).before args s = true) (hini : (Cond.initialized C).before args s = true) (h : (Cond.isRef (.static C n d)).before args s = true) (hA : ∀ a : Nat, a < s.heap.size → ¬ A a) : vx_Zq C n d A s s.heap := by
  refine ⟨va_Zqof hl hini h hA, ?_⟩
  obtain ⟨c, k, i, f, a, cell, h1, h2, h3, h4, h5, h6, h7, h8, h9⟩ := Cond.laysStatic_spec hl
  exact ⟨c, k, i, f, a, cell, h1, h2, h3, h4, h5, h6, h7, h8, h9, hA a (Array.getElem?_eq_some_iff.mp h5).1⟩
theorem vx_isRef {C n d : String} {v : Value} {A : Nat → Prop} {s : State} {args : Array Value} (h : va_Z C n d v A s s.heap) (hv : v.isRef = true) : (Cond.isRef (.static C n d)).before args s = true := by
  obtain ⟨cf, kf, fi, f, a, cell, h1, h2, h3, h4, h5, h6, h7, -⟩ := h
  have he : (Term.static C n d).eval args s none [] s = some v := by
    simp [Term.eval, State.fieldNamed?, h1, h2, h4, h5, h6, h7]
  simp only [Cond.before, Cond.holds, Cond.value, he]
  cases v <;> simp_all [Value.isRef]
theorem vx_isRefq {C n d : String} {A : Nat → Prop} {s : State} {args : Array Value} (h : va_Zq C n d A s s.heap) : (Cond.isRef (.static C n d)).before args s = true := by
  rcases h with h | ⟨t, h⟩
  · exact vx_isRef h rfl
  · exact vx_isRef h rfl
/-- the same frame, seen from here: as if the method were called anew in this heap -/
theorem vx_rebase {T : State} (X : Stand p l e R s m args below meth c T locs cells slots) {R' : Room} (hf : R'.frames ≤ R.frames) (hl : R'.locals ≤ R.locals) (hc : cells + R'.cells ≤ R.cells) (hs : slots + R'.slots ≤ R.slots) :
    Stand p l e R' ((T.setVm s.vm).setFrames (.invoking m args :: below)) m args below meth c T [] 0 0 := by
  have htop : (T.setVm s.vm).topJava?.isSome := X.here.top
  have hF : ((T.setVm s.vm).setFrames (.invoking m args :: below)).frames = .invoking m args :: below := State.frames_setFrames _ (State.cur_lt_of_top htop)
  obtain ⟨g₀, hg0⟩ := Option.isSome_iff_exists.mp htop
  obtain ⟨r, hr⟩ := State.topJava?_eq_some.mp hg0
  have hl9 : e.platform.stackLimits (T.setVm s.vm).me = e.platform.stackLimits s.me := X.limits
  have hb9 : (T.setVm s.vm).me.stackBytes = s.me.stackBytes := X.bytes
  refine ⟨X.admits, X.cas, X.clock, hF, ?_, X.hears, X.method, X.code, X.here, X.tail, X.warmed, ?_, ?_, ?_⟩
  · have h := X.room
    have hU : ((T.setVm s.vm).setFrames (.invoking m args :: below)).localsInUse = s.localsInUse := by
      rw [State.localsInUse_invoking hF (meth := meth) (c := c) X.method X.code, State.localsInUse_invoking X.frames X.method X.code]
    simp only [State.hasRoom, Bool.and_eq_true, decide_eq_true_eq] at h ⊢
    obtain ⟨⟨⟨⟨h1, h2, h3, h4, h5, h6⟩, h7⟩, h8⟩, h9⟩ := h
    rw [X.frames, List.length_cons] at h2 h3
    have q1 := X.heapSize
    have q2 := X.used
    simp only [hF, hU, List.length_cons, State.stackLimits_setFrames, State.stackBytes_setFrames, hl9, hb9]
    refine ⟨⟨⟨⟨by omega, by omega, by omega, by omega, by omega, h6⟩, ?_⟩, ?_⟩, X.book⟩
    · show T.heap.size + R'.cells ≤ e.platform.maxCells
      omega
    · show T.slotsUsed + R'.slots ≤ e.platform.maxSlots
      omega
  · rw [State.stackLimits_setFrames]; rfl
  · rw [State.stackBytes_setFrames]; rfl
  · refine ⟨?_, Nat.le_refl _, Nat.le_refl _, ?_, ?_, fun a c9 h9 => ⟨c9, h9, rfl, rfl, fun _ _ => rfl⟩⟩
    · obtain ⟨t, ht, -⟩ := State.frames_cons hr
      show T.setVm s.vm = { ((T.setVm s.vm).setFrames (.invoking m args :: below)).setFrames (T.setVm s.vm).frames with heap := T.heap, slotsUsed := T.slotsUsed }
      rw [State.setFrames_setFrames, State.setFrames_self ht]
      rfl
    · show T.slotsUsed = T.slotsUsed + ((T.heap.toList.drop T.heap.size).map (·.slots.size)).sum
      rw [List.drop_eq_nil_of_le (Nat.le_of_eq Array.length_toList)]
      rfl
    · show ((T.heap.toList.drop T.heap.size).map (·.slots.size)).sum ≤ 0
      rw [List.drop_eq_nil_of_le (Nat.le_of_eq Array.length_toList)]
      exact Nat.le_refl _
/-- 'throw new E()': new; dup; invokespecial; athrow -/
theorem vx_throw0 {cc : ByteArray} {pc : Nat} (hexec : p.tables.exec = Jvm.exec) (hb : c.code = cc) (hl : l.stackTraces = false) {own cls : String} {names : List String} {ik ic mc ms : Nat} {A : Nat → Prop}
    (hown : s.vm.findClass own = some m.cls) (hcls : Bundle.fit cls = true) (hnames : ∀ n ∈ names, Bundle.fit n = true)
    (hk : (Cond.classLink own ik cls).before args s = true) (hini : (Cond.initialized cls).before args s = true) (hat : ∀ w ∈ vx_at0 own ic cls names, w.before args s = true)
    (hgood : ∀ w ∈ Cond.classLink own ik cls :: Cond.initialized cls :: vx_at0 own ic cls names, vx_ot w = true)
    (hU : vx_Zq Bundle.tN "UNASSIGNED_STACK" Bundle.steD A s s.heap) (hN : vx_Zq Bundle.tN "SUPPRESSED_SENTINEL" Bundle.listD A s s.heap) (hS : va_S A s.heap H locs) (hsize : ls.size = c.maxLocals)
    (d0 : decode cc pc = .ok (.new ik, 3)) (d3 : decode cc (pc + 3) = .ok (.dup, 1)) (d4 : decode cc (pc + 4) = .ok (.invokespecial ic, 3)) (d7 : decode cc (pc + 7) = .ok (.athrow, 1))
    (hout : ∀ x ∈ c.exceptionTable.toList, covers x (pc + 7) = false)
    (hRframes : names.length + 3 < R.frames) (hRlocals : (rest.map fun v => v.category).sum + (13 * (names.length + 1) + 42) ≤ R.locals) (hRcells : cells + 1 ≤ R.cells) (hRslots : slots + 6 ≤ R.slots) (hlocks : meth.locks = false)
    (hx : ∀ t : State, s.vm.Alike t.vm → H.size ≤ t.heap.size → (∀ q : Nat, q < H.size → t.heap[q]? = H[q]?) → XC cls s t)
    (hf : ∀ z ∈ locs, free z.base) (hc : cells + 1 ≤ mc) (hs : slots + 6 ≤ ms) :
    W p l e R s m args below meth c H locs cells slots (vx_MQ below Qc XC args s mc ms free) (F0 m pc ls rest) := by
  intro T hT X
  have htr : e.platform.stackTraces = false := (show e.platform.stackTraces = l.stackTraces by rw [X.admits.platform]).trans hl
  have Y := vx_rebase X (R' := { frames := R.frames, locals := R.locals, cells := 1, slots := 6 }) (Nat.le_refl _) (Nat.le_refl _) hRcells hRslots
  obtain ⟨s', hA⟩ : ∃ z, z = (T.setVm s.vm).setFrames (.invoking m args :: below) := ⟨_, rfl⟩
  rw [← hA] at Y
  have hvm : s'.vm = s.vm := by rw [hA]; rfl
  have hhp : s'.heap = H := by rw [hA]; exact hT
  have hW0 : s.WarmedH s'.vm := by rw [hvm]; exact State.WarmedH.refl s
  have hat' : ∀ w ∈ vx_at0 own ic cls names, w.before args s' = true := fun w hw => vx_ot_at hW0 hvm.symm (hgood w (List.mem_cons_of_mem _ (List.mem_cons_of_mem _ hw))) (hat w hw)
  have hk' : (Cond.classLink own ik cls).before args s' = true := vx_ot_at hW0 hvm.symm (hgood _ List.mem_cons_self) hk
  have hini' : (Cond.initialized cls).before args s' = true := vx_ot_at hW0 hvm.symm (hgood _ (List.mem_cons_of_mem _ List.mem_cons_self)) hini
  have hU' : vx_Zq Bundle.tN "UNASSIGNED_STACK" Bundle.steD A s' s'.heap := by rw [hhp]; exact vx_Zq.moved hW0.alike (hU.kept hS.2.1)
  have hN' : vx_Zq Bundle.tN "SUPPRESSED_SENTINEL" Bundle.listD A s' s'.heap := by rw [hhp]; exact vx_Zq.moved hW0.alike (hN.kept hS.2.1)
  have h : ∀ w ∈ Bundle.ownAtoms0 own ic cls names, w.before args s' = true := vx_own hat' (vx_isRefq hU'.1) (vx_isRefq hN'.1) hU'.2.word hN'.2.word
  have hown' : s'.vm.findClass own = some m.cls := by rw [hvm]; exact hown
  have hins : (Cond.instantiable cls 6).before args s' = true := h _ (by simp [Bundle.ownAtoms0])
  obtain ⟨vm₁, cX, kX, hfX, hkX, -, -, X₁, st1⟩ := Y.newCold hexec (own := own) (C := cls) (index := ik) (n := 6) hown' hk' hins hini'
    (g := F0 m pc ls rest) rfl (by rw [hb]; exact d0) (Nat.le_refl _) (Nat.le_refl _)
  generalize hT1 : (T.setVm vm₁).pushCell { cls := cX, slots := kX.instanceTypes.map defaultValue, vm := .none } = T1 at X₁ st1
  have hcat : (Value.ref T.heap.size).category = 1 := rfl
  have hcellA : T1.heap[T.heap.size]? = some (freshCell cX kX) := by rw [← hT1]; exact State.heap_pushCell_size _ _
  have d3' : decode c.code (pc + 3) = .ok (.dup, 1) := by rw [hb]; exact d3
  obtain ⟨U, hsteps, hrun, hend, hW, hsame, ce, hce, hO⟩ := X₁.ctorThrow0 hexec htr (own := own) (cls := cls) (names := names) (ic := ic) hown' hcls hnames h (fun x hx => nomatch hx) hfX hkX hcellA (by rw [hhp, hT]; exact Nat.le_refl _)
    (g := { method := m, pc := pc + 4, locals := ls, stack := .ref T.heap.size :: .ref T.heap.size :: rest, locked := none }) rfl hsize rfl rfl (rest := rest) rfl
    (by rw [hb]; exact d4) (by rw [hb]; exact d7) hout hRframes (by simp only [List.map_cons, List.sum_cons, hcat]; omega) hlocks
  obtain ⟨f1, f2⟩ := vx_frame hsame
  rw [hhp] at f1 f2
  have hWs : s.WarmedH U.vm := State.WarmedH.trans hW0 hW
  have hcl : s.vm.findClass cls = some ce.cls := by
    have h9 := hO.cls
    rw [hvm] at h9
    exact h9
  have hall : s.sameButNew ({ U with vm := s.vm } : State) locs mc ms := by
    subst hA
    obtain ⟨e1, e2⟩ := hsame
    rw [State.setFrames_setFrames] at e1
    have h2 : (T.setVm s.vm).sameButNew ({ U with vm := s.vm } : State) [] (0 + 1) (0 + 6) := ⟨e1, e2⟩
    have h3 := X.same.trans h2
    rw [List.append_nil] at h3
    exact h3.mono hc hs
  refine ⟨U, ?_, .threw T.heap.size, hrun, hend, Or.inr ⟨T.heap.size, rfl, cls, ce, locs, hx U hWs.alike f1 (fun q hq => f2 q hq (fun z hz => nomatch hz)), hce, hO.vm, hcl, hWs, hall, hf⟩⟩
  refine st1 _ ?_
  show Steps p.tables e below (T1.setTop { method := m, pc := pc + 3, locals := ls, stack := .ref T.heap.size :: rest, locked := none }) _
  jvm_step X₁.here [X₁.here.top, hexec, d3', Value.category]
  exact hsteps
/-- 'throw new E("text")': new; dup; ldc; invokespecial; athrow -/
theorem vx_throwS {cc : ByteArray} {pc : Nat} (hexec : p.tables.exec = Jvm.exec) (hb : c.code = cc) (hl : l.stackTraces = false) {own cls text : String} {names : List String} {ik is ic mc ms sa : Nat} {A : Nat → Prop}
    (hown : s.vm.findClass own = some m.cls) (hcls : Bundle.fit cls = true) (hnames : ∀ n ∈ names, Bundle.fit n = true)
    (hk : (Cond.classLink own ik cls).before args s = true) (hini : (Cond.initialized cls).before args s = true) (hstr : vk_R own is text sa s) (hat : ∀ w ∈ vx_atS own ic cls names, w.before args s = true)
    (hgood : ∀ w ∈ Cond.classLink own ik cls :: Cond.initialized cls :: vx_atS own ic cls names, vx_ot w = true)
    (hU : vx_Zq Bundle.tN "UNASSIGNED_STACK" Bundle.steD A s s.heap) (hN : vx_Zq Bundle.tN "SUPPRESSED_SENTINEL" Bundle.listD A s s.heap) (hS : va_S A s.heap H locs) (hsize : ls.size = c.maxLocals)
    (d0 : decode cc pc = .ok (.new ik, 3)) (d3 : decode cc (pc + 3) = .ok (.dup, 1)) (d4 : decode cc (pc + 4) = .ok (.ldc is, 2)) (d6 : decode cc (pc + 6) = .ok (.invokespecial ic, 3)) (d9 : decode cc (pc + 9) = .ok (.athrow, 1))
    (hout : ∀ x ∈ c.exceptionTable.toList, covers x (pc + 9) = false)
    (hRframes : names.length + 3 < R.frames) (hRlocals : (rest.map fun v => v.category).sum + (13 * (names.length + 1) + 43) ≤ R.locals) (hRcells : cells + 1 ≤ R.cells) (hRslots : slots + 6 ≤ R.slots) (hlocks : meth.locks = false)
    (hx : ∀ t : State, s.vm.Alike t.vm → H.size ≤ t.heap.size → (∀ q : Nat, q < H.size → t.heap[q]? = H[q]?) → XC cls s t)
    (hf : ∀ z ∈ locs, free z.base) (hc : cells + 1 ≤ mc) (hs : slots + 6 ≤ ms) :
    W p l e R s m args below meth c H locs cells slots (vx_MQ below Qc XC args s mc ms free) (F0 m pc ls rest) := by
  intro T hT X
  have htr : e.platform.stackTraces = false := (show e.platform.stackTraces = l.stackTraces by rw [X.admits.platform]).trans hl
  have Y := vx_rebase X (R' := { frames := R.frames, locals := R.locals, cells := 1, slots := 6 }) (Nat.le_refl _) (Nat.le_refl _) hRcells hRslots
  obtain ⟨s', hA⟩ : ∃ z, z = (T.setVm s.vm).setFrames (.invoking m args :: below) := ⟨_, rfl⟩
  rw [← hA] at Y
  have hvm : s'.vm = s.vm := by rw [hA]; rfl
  have hhp : s'.heap = H := by rw [hA]; exact hT
  have hW0 : s.WarmedH s'.vm := by rw [hvm]; exact State.WarmedH.refl s
  have hat' : ∀ w ∈ vx_atS own ic cls names, w.before args s' = true := fun w hw => vx_ot_at hW0 hvm.symm (hgood w (List.mem_cons_of_mem _ (List.mem_cons_of_mem _ hw))) (hat w hw)
  have hk' : (Cond.classLink own ik cls).before args s' = true := vx_ot_at hW0 hvm.symm (hgood _ List.mem_cons_self) hk
  have hini' : (Cond.initialized cls).before args s' = true := vx_ot_at hW0 hvm.symm (hgood _ (List.mem_cons_of_mem _ List.mem_cons_self)) hini
  have hU' : vx_Zq Bundle.tN "UNASSIGNED_STACK" Bundle.steD A s' s'.heap := by rw [hhp]; exact vx_Zq.moved hW0.alike (hU.kept hS.2.1)
  have hN' : vx_Zq Bundle.tN "SUPPRESSED_SENTINEL" Bundle.listD A s' s'.heap := by rw [hhp]; exact vx_Zq.moved hW0.alike (hN.kept hS.2.1)
  have h : ∀ w ∈ Bundle.ownAtoms own ic cls names, w.before args s' = true := vx_own hat' (vx_isRefq hU'.1) (vx_isRefq hN'.1) hU'.2.word hN'.2.word
  have hown' : s'.vm.findClass own = some m.cls := by rw [hvm]; exact hown
  have hins : (Cond.instantiable cls 6).before args s' = true := h _ (by simp [Bundle.ownAtoms])
  obtain ⟨vm₁, cX, kX, hfX, hkX, -, -, X₁, st1⟩ := Y.newCold hexec (own := own) (C := cls) (index := ik) (n := 6) hown' hk' hins hini'
    (g := F0 m pc ls rest) rfl (by rw [hb]; exact d0) (Nat.le_refl _) (Nat.le_refl _)
  generalize hT1 : (T.setVm vm₁).pushCell { cls := cX, slots := kX.instanceTypes.map defaultValue, vm := .none } = T1 at X₁ st1
  have hcat : (Value.ref T.heap.size).category = 1 := rfl
  have hcellA : T1.heap[T.heap.size]? = some (freshCell cX kX) := by rw [← hT1]; exact State.heap_pushCell_size _ _
  have d3' : decode c.code (pc + 3) = .ok (.dup, 1) := by rw [hb]; exact d3
  have d4' : decode c.code (pc + 4) = .ok (.ldc is, 2) := by rw [hb]; exact d4
  have hstr' : vk_R own is text sa s' := vk_R.warm hW0 hstr
  obtain ⟨U, hsteps, hrun, hend, hW, hsame, ce, hce, hO⟩ := X₁.ctorThrowS hexec htr (own := own) (cls := cls) (names := names) (ic := ic) hown' hcls hnames h (fun x hx => nomatch hx) hfX hkX hcellA (by rw [hhp, hT]; exact Nat.le_refl _) (msg := .ref sa) rfl
    (g := { method := m, pc := pc + 6, locals := ls, stack := .ref sa :: .ref T.heap.size :: .ref T.heap.size :: rest, locked := none }) rfl hsize rfl rfl (rest := rest) rfl
    (by rw [hb]; exact d6) (by rw [hb]; exact d9) hout hRframes (by simp only [List.map_cons, List.sum_cons, hcat]; omega) hlocks
  obtain ⟨f1, f2⟩ := vx_frame hsame
  rw [hhp] at f1 f2
  have hWs : s.WarmedH U.vm := State.WarmedH.trans hW0 hW
  have hcl : s.vm.findClass cls = some ce.cls := by
    have h9 := hO.cls
    rw [hvm] at h9
    exact h9
  have hall : s.sameButNew ({ U with vm := s.vm } : State) locs mc ms := by
    subst hA
    obtain ⟨e1, e2⟩ := hsame
    rw [State.setFrames_setFrames] at e1
    have h2 : (T.setVm s.vm).sameButNew ({ U with vm := s.vm } : State) [] (0 + 1) (0 + 6) := ⟨e1, e2⟩
    have h3 := X.same.trans h2
    rw [List.append_nil] at h3
    exact h3.mono hc hs
  refine ⟨U, ?_, .threw T.heap.size, hrun, hend, Or.inr ⟨T.heap.size, rfl, cls, ce, locs, hx U hWs.alike f1 (fun q hq => f2 q hq (fun z hz => nomatch hz)), hce, hO.vm, hcl, hWs, hall, hf⟩⟩
  refine st1 _ ?_
  show Steps p.tables e below (T1.setTop { method := m, pc := pc + 3, locals := ls, stack := .ref T.heap.size :: rest, locked := none }) _
  jvm_step X₁.here [X₁.here.top, hexec, d3', Value.category]
  exact X₁.ldcString hexec (own := own) (text := text) (index := is) (a := sa) hown' hstr'.1 hstr'.2
    (g := { method := m, pc := pc + 4, locals := ls, stack := .ref T.heap.size :: .ref T.heap.size :: rest, locked := none }) rfl d4' _ hsteps
/-- 'throw new E("text")', the text by a wide index -/
theorem vx_throwSW {cc : ByteArray} {pc : Nat} (hexec : p.tables.exec = Jvm.exec) (hb : c.code = cc) (hl : l.stackTraces = false) {own cls text : String} {names : List String} {ik is ic mc ms sa : Nat} {A : Nat → Prop}
    (hown : s.vm.findClass own = some m.cls) (hcls : Bundle.fit cls = true) (hnames : ∀ n ∈ names, Bundle.fit n = true)
    (hk : (Cond.classLink own ik cls).before args s = true) (hini : (Cond.initialized cls).before args s = true) (hstr : vk_R own is text sa s) (hat : ∀ w ∈ vx_atS own ic cls names, w.before args s = true)
    (hgood : ∀ w ∈ Cond.classLink own ik cls :: Cond.initialized cls :: vx_atS own ic cls names, vx_ot w = true)
    (hU : vx_Zq Bundle.tN "UNASSIGNED_STACK" Bundle.steD A s s.heap) (hN : vx_Zq Bundle.tN "SUPPRESSED_SENTINEL" Bundle.listD A s s.heap) (hS : va_S A s.heap H locs) (hsize : ls.size = c.maxLocals)
    (d0 : decode cc pc = .ok (.new ik, 3)) (d3 : decode cc (pc + 3) = .ok (.dup, 1)) (d4 : decode cc (pc + 4) = .ok (.ldc_w is, 3)) (d7 : decode cc (pc + 7) = .ok (.invokespecial ic, 3)) (d10 : decode cc (pc + 10) = .ok (.athrow, 1))
    (hout : ∀ x ∈ c.exceptionTable.toList, covers x (pc + 10) = false)
    (hRframes : names.length + 3 < R.frames) (hRlocals : (rest.map fun v => v.category).sum + (13 * (names.length + 1) + 43) ≤ R.locals) (hRcells : cells + 1 ≤ R.cells) (hRslots : slots + 6 ≤ R.slots) (hlocks : meth.locks = false)
    (hx : ∀ t : State, s.vm.Alike t.vm → H.size ≤ t.heap.size → (∀ q : Nat, q < H.size → t.heap[q]? = H[q]?) → XC cls s t)
    (hf : ∀ z ∈ locs, free z.base) (hc : cells + 1 ≤ mc) (hs : slots + 6 ≤ ms) :
    W p l e R s m args below meth c H locs cells slots (vx_MQ below Qc XC args s mc ms free) (F0 m pc ls rest) := by
  intro T hT X
  have htr : e.platform.stackTraces = false := (show e.platform.stackTraces = l.stackTraces by rw [X.admits.platform]).trans hl
  have Y := vx_rebase X (R' := { frames := R.frames, locals := R.locals, cells := 1, slots := 6 }) (Nat.le_refl _) (Nat.le_refl _) hRcells hRslots
  obtain ⟨s', hA⟩ : ∃ z, z = (T.setVm s.vm).setFrames (.invoking m args :: below) := ⟨_, rfl⟩
  rw [← hA] at Y
  have hvm : s'.vm = s.vm := by rw [hA]; rfl
  have hhp : s'.heap = H := by rw [hA]; exact hT
  have hW0 : s.WarmedH s'.vm := by rw [hvm]; exact State.WarmedH.refl s
  have hat' : ∀ w ∈ vx_atS own ic cls names, w.before args s' = true := fun w hw => vx_ot_at hW0 hvm.symm (hgood w (List.mem_cons_of_mem _ (List.mem_cons_of_mem _ hw))) (hat w hw)
  have hk' : (Cond.classLink own ik cls).before args s' = true := vx_ot_at hW0 hvm.symm (hgood _ List.mem_cons_self) hk
  have hini' : (Cond.initialized cls).before args s' = true := vx_ot_at hW0 hvm.symm (hgood _ (List.mem_cons_of_mem _ List.mem_cons_self)) hini
  have hU' : vx_Zq Bundle.tN "UNASSIGNED_STACK" Bundle.steD A s' s'.heap := by rw [hhp]; exact vx_Zq.moved hW0.alike (hU.kept hS.2.1)
  have hN' : vx_Zq Bundle.tN "SUPPRESSED_SENTINEL" Bundle.listD A s' s'.heap := by rw [hhp]; exact vx_Zq.moved hW0.alike (hN.kept hS.2.1)
  have h : ∀ w ∈ Bundle.ownAtoms own ic cls names, w.before args s' = true := vx_own hat' (vx_isRefq hU'.1) (vx_isRefq hN'.1) hU'.2.word hN'.2.word
  have hown' : s'.vm.findClass own = some m.cls := by rw [hvm]; exact hown
  have hins : (Cond.instantiable cls 6).before args s' = true := h _ (by simp [Bundle.ownAtoms])
  obtain ⟨vm₁, cX, kX, hfX, hkX, -, -, X₁, st1⟩ := Y.newCold hexec (own := own) (C := cls) (index := ik) (n := 6) hown' hk' hins hini'
    (g := F0 m pc ls rest) rfl (by rw [hb]; exact d0) (Nat.le_refl _) (Nat.le_refl _)
  generalize hT1 : (T.setVm vm₁).pushCell { cls := cX, slots := kX.instanceTypes.map defaultValue, vm := .none } = T1 at X₁ st1
  have hcat : (Value.ref T.heap.size).category = 1 := rfl
  have hcellA : T1.heap[T.heap.size]? = some (freshCell cX kX) := by rw [← hT1]; exact State.heap_pushCell_size _ _
  have d3' : decode c.code (pc + 3) = .ok (.dup, 1) := by rw [hb]; exact d3
  have d4' : decode c.code (pc + 4) = .ok (.ldc_w is, 3) := by rw [hb]; exact d4
  have hstr' : vk_R own is text sa s' := vk_R.warm hW0 hstr
  obtain ⟨U, hsteps, hrun, hend, hW, hsame, ce, hce, hO⟩ := X₁.ctorThrowS hexec htr (own := own) (cls := cls) (names := names) (ic := ic) hown' hcls hnames h (fun x hx => nomatch hx) hfX hkX hcellA (by rw [hhp, hT]; exact Nat.le_refl _) (msg := .ref sa) rfl
    (g := { method := m, pc := pc + 7, locals := ls, stack := .ref sa :: .ref T.heap.size :: .ref T.heap.size :: rest, locked := none }) rfl hsize rfl rfl (rest := rest) rfl
    (by rw [hb]; exact d7) (by rw [hb]; exact d10) hout hRframes (by simp only [List.map_cons, List.sum_cons, hcat]; omega) hlocks
  obtain ⟨f1, f2⟩ := vx_frame hsame
  rw [hhp] at f1 f2
  have hWs : s.WarmedH U.vm := State.WarmedH.trans hW0 hW
  have hcl : s.vm.findClass cls = some ce.cls := by
    have h9 := hO.cls
    rw [hvm] at h9
    exact h9
  have hall : s.sameButNew ({ U with vm := s.vm } : State) locs mc ms := by
    subst hA
    obtain ⟨e1, e2⟩ := hsame
    rw [State.setFrames_setFrames] at e1
    have h2 : (T.setVm s.vm).sameButNew ({ U with vm := s.vm } : State) [] (0 + 1) (0 + 6) := ⟨e1, e2⟩
    have h3 := X.same.trans h2
    rw [List.append_nil] at h3
    exact h3.mono hc hs
  refine ⟨U, ?_, .threw T.heap.size, hrun, hend, Or.inr ⟨T.heap.size, rfl, cls, ce, locs, hx U hWs.alike f1 (fun q hq => f2 q hq (fun z hz => nomatch hz)), hce, hO.vm, hcl, hWs, hall, hf⟩⟩
  refine st1 _ ?_
  show Steps p.tables e below (T1.setTop { method := m, pc := pc + 3, locals := ls, stack := .ref T.heap.size :: rest, locked := none }) _
  jvm_step X₁.here [X₁.here.top, hexec, d3', Value.category]
  exact X₁.ldcStringW hexec (own := own) (text := text) (index := is) (a := sa) hown' hstr'.1 hstr'.2
    (g := { method := m, pc := pc + 4, locals := ls, stack := .ref T.heap.size :: .ref T.heap.size :: rest, locked := none }) rfl d4' _ hsteps
end Ends
section Bodies
variable {l : Launch}
theorem vx_ofW {y : MethodName} {ws ws' : List Cond} {rm : Room} {Pc : Array Value → State → Prop} {Qc : Array Value → State → Outcome → State → Prop} {XC : String → State → State → Prop} {mc ms : Nat} {free : Addr → Prop} {cc : ByteArray} {maxL : Nat} {ret : Option FieldType}
    (hy : plainName y.cls = true) (hw : ws = Cond.code y cc maxL ret :: ws')
    (body : ∀ p e s m args below meth c s₁, BodyLoose p l y (headSpec ws rm) cc maxL ret e s m args below meth c s₁ → c.maxLocals = maxL → (∀ x ∈ c.exceptionTable.toList, False) → Pc args s →
      W p l e (headSpec ws rm).room s m args below meth c s.heap [] 0 0 (vx_MQ below Qc XC args s mc ms free) (entryFrame m args maxL)) : vx_Met l y ws rm Pc Qc XC mc ms free := by
  refine MetFree.of_bodyS (code := cc) (maxLocals := maxL) (ret := ret) hy ?_ ?_
  · intro args s m h hn
    obtain ⟨meth, c, h1, h2, h3, h4, h5, h6, -, -⟩ := Cond.code_spec hn (atoms_spec (ws := ws) h _ (by rw [hw]; exact List.mem_cons_self))
    exact ⟨meth, c, h1, h2, h3, h4, h5, h6⟩
  · intro p e s m args below meth c s₁ B hml hP _
    have hh0 : s₁.heap = s.heap := by rw [B.state]; rfl
    have ht : ∀ x ∈ c.exceptionTable.toList, False := by
      obtain ⟨meth9, c9, h1, h2, -, -, -, -, h7, -⟩ := Cond.code_spec B.named (atoms_spec (ws := ws) B.pre _ (by rw [hw]; exact List.mem_cons_self))
      cases Option.some.inj (h1.symm.trans B.method)
      cases Option.some.inj (h2.symm.trans (Stand.of_body B).code)
      intro x hx
      rw [Array.isEmpty_iff.mp h7] at hx
      cases hx
    obtain ⟨t, a1, o, b1, b2, b3⟩ := body p e s m args below meth c s₁ B hml ht hP s₁ hh0 (Stand.of_body B)
    exact ⟨t, o, a1, b1, b2, b3⟩
/-- the table of a body with handlers -/
theorem vx_table {p : Program} {x y : MethodName} {S : Spec} {cc bytes : ByteArray} {maxL maxL' : Nat} {ret ret' : Option FieldType} {e : Env} {s s₁ : State} {m : MethodId} {args : Array Value} {below : List Frame} {meth : Method} {c : Code} {hh : List (Nat × Nat × Nat × Nat)}
    (B : BodyLoose p l y S cc maxL ret e s m args below meth c s₁) (h : (Cond.codeWith y bytes maxL' ret' hh).before args s = true) : c.exceptionTable.toList = tableOf hh := by
  obtain ⟨m9, meth9, c9, hn9, h1, h2, -, -, h6, -⟩ := Cond.codeWith_spec h
  cases Option.some.inj (hn9.symm.trans B.named)
  cases Option.some.inj (h1.symm.trans B.method)
  cases Option.some.inj (h2.symm.trans (Stand.of_body B).code)
  rw [← h6, table_eq]
end Bodies
end VXA
/-! ===== END ===== -/
/-! ===== BEGIN a static call of a method with an exception table ===== -/
section VXS
variable {p : Program} {l : Launch} {e : Env} {R : Room} {s : State} {m : MethodId} {args : Array Value} {below : List Frame} {meth : Method} {c : Code} {T : State} {H : Heap} {locs : List Loc} {cells slots : Nat}
abbrev vx_CSW (R : Room) (s : State) (args : Array Value) (own : String) (index : Nat) (y : MethodName) (bytes : ByteArray) (maxL : Nat) (ret : Option FieldType) (hh : List (Nat × Nat × Nat × Nat)) (ws : List Cond) (rm : Room) (mc ms n : Nat) : Prop :=
  (rm.cells = mc ∧ rm.slots = ms ∧ rm.frames + 1 ≤ R.frames ∧ 8 + (maxL + 11) + rm.locals ≤ R.locals ∧ (∀ w ∈ ws, ∀ (a' : Array Value) (U : State), s.WarmedH U.vm → w.before a' U = true) ∧ Cond.codeWith y bytes maxL ret hh ∈ ws) ∧
  (Cond.codeWith y bytes maxL ret hh).before args s = true ∧ (Cond.initialized y.cls).before args s = true ∧ (y.cls ≠ "java/lang/invoke/MethodHandle" ∧ y.cls ≠ "java/lang/invoke/VarHandle") ∧
  (∀ sig, parseMethodDescriptor y.desc = some sig → n = sig.parameters.length) ∧ (Cond.methodLink own index y).before args s = true ∧ (Cond.static y).before args s = true
theorem vx_cwSW {own : String} {index maxL mc ms : Nat} {y : MethodName} {bytes : ByteArray} {ret : Option FieldType} {hh : List (Nat × Nat × Nat × Nat)} {Ts ws ws' : List Cond} {rm : Room} (n : Nat) (ht : ∀ w ∈ Ts, w.before args s = true) (hT : GoodIn Ts (va_wsS own index y ws)) (hw : ws = Cond.codeWith y bytes maxL ret hh :: ws') (hrc : rm.cells = mc) (hrs : rm.slots = ms)
    (hd : y.cls ≠ "java/lang/invoke/MethodHandle" ∧ y.cls ≠ "java/lang/invoke/VarHandle" ∧ (parseMethodDescriptor y.desc).map (fun d => d.parameters.length) = some n) (hR : rm.frames + 1 ≤ R.frames ∧ 8 + (maxL + 11) + rm.locals ≤ R.locals) :
    vx_CSW R s args own index y bytes maxL ret hh ws rm mc ms n := by
  have ok : ∀ w ∈ va_wsS own index y ws, w.before args s = true := fun w h => ht w (hT w h).1
  have hG : GoodIn Ts ws := fun w h => hT w (by unfold va_wsS; exact List.mem_append_right _ h)
  have hc : Cond.codeWith y bytes maxL ret hh ∈ ws := by rw [hw]; exact List.mem_cons_self
  refine ⟨⟨hrc, hrs, hR.1, hR.2, pay_in ht hG, hc⟩, ht _ (hG _ hc).1, ok _ (by simp [va_wsS]), ⟨hd.1, hd.2.1⟩, fun sig h => ?_, ok _ (by simp [va_wsS]), ok _ (by simp [va_wsS])⟩
  have h2 := hd.2.2
  rw [h] at h2
  exact (Option.some.inj h2).symm
theorem vx_callSW (X : Stand p l e R s m args below meth c T locs cells slots) (hexec : p.tables.exec = Jvm.exec) {own : String} {index : Nat} {y : MethodName} {bytes : ByteArray} {maxL : Nat} {ret : Option FieldType} {hh : List (Nat × Nat × Nat × Nat)}
    (hown : s.vm.findClass own = some m.cls) (hlink : (Cond.methodLink own index y).before args s = true) (hstat : (Cond.static y).before args s = true) (hinit : (Cond.initialized y.cls).before args s = true)
    (hcode : (Cond.codeWith y bytes maxL ret hh).before args s = true) (hy : y.cls ≠ "java/lang/invoke/MethodHandle" ∧ y.cls ≠ "java/lang/invoke/VarHandle")
    {W9 : Nat} {Pre : Pt → Array Value → Prop} {Post : Pt → Array Value → Option Value → Pt → Prop} (hK : Back l R p e below s args y 3 W9 Pre Post)
    {g : JFrame} (hg : g.method = m) (hsize : g.locals.size = c.maxLocals) {argsL rest : List Value} (hlen : ∀ sig, parseMethodDescriptor y.desc = some sig → argsL.length = sig.parameters.length)
    (hstack : g.stack = argsL.reverse ++ rest) (hW : 2 * g.monitorRoom + (rest.map fun v => v.category).sum ≤ W9) (hdg : decode c.code g.pc = .ok (.invokestatic index, 3))
    (hpre : ∀ vm₁, s.WarmedH vm₁ → Pre ⟨T.setVm vm₁, locs, cells, slots⟩ argsL.toArray) :
    ∃ (v : Option Value) (vm₁ : Vm) (B : Pt), s.WarmedH vm₁ ∧ Stand p l e R s m args below meth c B.U B.locs B.cells B.slots ∧ Post ⟨T.setVm vm₁, locs, cells, slots⟩ argsL.toArray v B ∧
      ∀ target, Steps p.tables e below (B.U.setTop { g with pc := g.pc + 3, stack := v.toList ++ rest }) target → Steps p.tables e below (T.setTop g) target := by
  obtain ⟨mk, methM, cM, hnamed, hmethM, -, -, -, -, -, -, hsigM⟩ := Cond.codeWith_spec hcode
  have hstatic : methM.isStatic = true := Cond.static_spec hnamed hmethM hstat
  obtain ⟨kP, hkP, -⟩ := className_of_methodNamed hnamed
  have hinitP : kP.init = .initialized := Cond.initialized_spec (findClass_of_methodNamed hnamed) hkP hinit
  obtain ⟨vm₁, X₁, hstep₁⟩ := X.invokestatic hexec hown hlink hnamed hmethM hstatic hkP hinitP hy (g := g) hg (argsL := argsL) (rest := rest) (hlen _ hsigM) hstack hdg
  obtain ⟨v, B, X', hpost, hsteps⟩ := hK m meth c ⟨T.setVm vm₁, locs, cells, slots⟩ { g with stack := rest } (.invokestatic index) mk argsL.toArray X₁ hg hsize hdg hW (X₁.named hnamed) (hpre vm₁ X₁.warmed)
  exact ⟨v, vm₁, B, X₁.warmed, X', hpost, fun target h => hstep₁ _ fun acts => by rw [doInvoke_state]; exact hsteps.trans h⟩
theorem vx_runSW {y : MethodName} {bytes cc : ByteArray} {maxL nL mc ms n index : Nat} {ret : Option FieldType} {hh : List (Nat × Nat × Nat × Nat)} {ws : List Cond} {rm : Room} {Pc : Array Value → State → Prop} {Qc : Array Value → State → Outcome → State → Prop} {free : Addr → Prop} {Ts : List Cond} {own : String} {As rest : List Value} {g : JFrame}
    (S : CallFix p m c cc nL s args Ts own) (hM : Met l y ws rm Pc Qc mc ms free) (cw : vx_CSW R s args own index y bytes maxL ret hh ws rm mc ms n) (hp : PreS s H Pc As)
    (hg : g.method = m) (hn : As.length = n) (hsize : g.locals.size = nL) (hstack : g.stack = As.reverse ++ rest) (hW : 2 * g.monitorRoom + (rest.map fun v => v.category).sum ≤ 8) (hdg : decode cc g.pc = .ok (.invokestatic index, 3)) (hf : cells + mc ≤ R.cells ∧ slots + ms ≤ R.slots) :
    va_Run p l e R s m args below meth c H locs cells slots mc ms g rest (Qc As.toArray) (free) := by
  obtain ⟨⟨hrc, hrs, hfr, hlo, hws, hcw⟩, hcode, hini, hy, hlen, hl, hstt⟩ := cw
  have hK : Back l R p e below s args y 3 8 (PreOf R mc ms Pc) (PostOf Qc mc ms free) := va_backW (hh := hh) (bytes := bytes) (maxL := maxL) (ret := ret) hM hp.1 hrc hrs hfr hlo hws hcw (fun a' U hW => word_at hW (Or.inl (by first | rfl | simp [Cond.onTables, Cond.keeps, Cond.steady])) hini)
  obtain ⟨hx, hb, hml, ho, -⟩ := S
  intro T hT X
  obtain ⟨v, vm₁, ⟨U', l2, c2, s2⟩, hW₁, X', ⟨g', mk, t, L, e1, e2, hq, h1, hL, h2, h3⟩, st⟩ := vx_callSW X hx (hh := hh) (bytes := bytes) (maxL := maxL) (ret := ret) ho hl hstt hini hcode hy hK hg (hsize.trans hml.symm) (argsL := As) (rest := rest) (fun sig h => hn.trans (hlen sig h)) hstack hW (by rw [hb]; exact hdg)
    (fun vm₁ hW₁ => ⟨hf.1, hf.2, hp.2 (T.setVm vm₁) hT hW₁⟩)
  dsimp only [Pt.U, Pt.locs, Pt.cells, Pt.slots] at X' e1 e2 h1 h2 h3 st
  subst h1; subst h2; subst h3
  exact ⟨v, (T.setVm vm₁).calling g' mk As.toArray, t, U', L, hT, X', hL, e1, e2, hq, st⟩
/-- not caught here, past rows that name other classes: it goes on to the caller -/
theorem vx_outP {p : Program} {l : Launch} {e : Env} {R : Room} {s : State} {m : MethodId} {args : Array Value} {below : List Frame} {meth : Method} {c : Code} {H : Heap} {locs : List Loc} {cells slots : Nat} {free : Addr → Prop} {ls : Array Slot} {rest : List Value} {Qc : Array Value → State → Outcome → State → Prop} {XC : String → State → State → Prop}
    {pc : Nat} {own E : String} {ce : Cell} {q : Addr} {mc ms : Nat} (hown : s.vm.findClass own = some m.cls) (hlocks : meth.locks = false)
    (hpass : ∀ z ∈ c.exceptionTable.toList, covers z pc = false ∨ (z.catchType ≠ 0 ∧ ∃ nm : String, (Cond.classLink own z.catchType nm).before args s = true ∧ va_Nc E nm s)) (hcell : H[q]? = some ce) (hv : ce.vm = .none) (hcl : s.vm.findClass E = some ce.cls)
    (hx : ∀ t : State, t.heap = H → s.vm.Alike t.vm → XC E s t) (hf : ∀ z ∈ locs, free z.base) (hc : cells ≤ mc) (hs : slots ≤ ms) :
    vx_W p l e R s m args below meth c H locs cells slots (vx_MQ below Qc XC args s mc ms free) (F0 m pc ls rest) q := by
  intro T hT X
  have hpl : e.platform.magicAccessors = ({} : Platform).magicAccessors := by rw [X.admits.platform]
  obtain ⟨vm', hW', X', st⟩ := X.outThrough hlocks q (g := F0 m pc ls rest) rfl rfl rfl (cell := ce) (by rw [hT]; exact hcell) (by rw [hv]; rfl)
    (by obtain ⟨k9, h9, -⟩ := Vm.findClass_spec hcl; exact ⟨k9, h9⟩) (fun z hz => by
      rcases hpass z hz with h | ⟨hz0, nm, hl1, hn1⟩
      · exact Or.inl h
      · obtain ⟨c6, hc6, hcl6⟩ := Cond.classLink_spec hown hl1 e.platform hpl
        obtain ⟨a8, b8, h1, h2, h3⟩ := hn1
        cases Option.some.inj (h1.symm.trans hcl)
        cases Option.some.inj (h2.symm.trans hc6)
        exact Or.inr ⟨hz0, _, hcl6, h3⟩)
  obtain ⟨g₀, hfr⟩ := X'.frames_eq
  have hcell9 : ((T.setVm vm').setFrames (.throwing q :: below)).heap[q]? = some ce := by
    show T.heap[q]? = some ce
    rw [hT]; exact hcell
  have hend : Ended ((T.setVm vm').setFrames (.throwing q :: below)) below (.threw q) := State.frames_setFrames _ (State.cur_lt_of_frames hfr)
  refine ⟨(T.setVm vm').setFrames (.throwing q :: below), ?_, .threw q, X'.here.running, hend, Or.inr ⟨q, rfl, E, ce, locs, hx _ hT (X'.ends _).1.alike, hcell9, hv, hcl, (X'.ends _).1, (X'.ends _).2.mono hc hs, hf⟩⟩
  rw [X.pushThrowing_eq]
  exact st
/-- a thing of a world lies in the heap -/
theorem vx_lt {D : va_G} {cl : List vw_C} {ws : va_W} {H1 : Heap} (h : va_P D cl ws H1) {k : Nat} {q : Nat × va_E} (hk : ws[k]? = some q) : q.1 < H1.size := (h k q hk).lt
end VXS
/-! ===== END ===== -/
/-! ===== BEGIN methods with a table of their own: called by a name, returning or throwing ===== -/
section VXH
/-! vx_backW, vx_callVX, vx_callSX, vx_callVW, vx_runVW, vx_runVX, vx_runSX, vx_ofWH follow the same proofs as their sisters above (Free/Laws.lean, Shelf42/LK1.lean); vx_outP calls Shelf42/NT130.lean (outThrough). -/
section
variable {l : Launch} {R : Room} {p : Program} {e : Env} {below : List Frame} {s : State} {sargs : Array Value} {y : MethodName} {len W9 : Nat}
theorem vx_backW {ws : List Cond} {rm : Room} {Pc : Array Value → State → Prop} {Qc : Array Value → State → Outcome → State → Prop} {XC : String → State → State → Prop} {mc ms : Nat} {free : Addr → Prop} {bytes : ByteArray} {maxL : Nat} {ret : Option FieldType} {hh : List (Nat × Nat × Nat × Nat)}
    (hM : vx_Met l y ws rm Pc Qc XC mc ms free) (hblind : FrameBlind Pc) (hrc : rm.cells = mc) (hrs : rm.slots = ms)
    (hframes : rm.frames + 1 ≤ R.frames) (hlocals : W9 + (maxL + 11) + rm.locals ≤ R.locals)
    (hws : ∀ w ∈ ws, ∀ a' U, s.WarmedH U.vm → w.before a' U = true) (hcode : Cond.codeWith y bytes maxL ret hh ∈ ws) (hinit : ∀ a' U, s.WarmedH U.vm → (Cond.initialized y.cls).before a' U = true) :
    vx_Back l R p e below s sargs y len W9 (PreOf R mc ms Pc) (PostOf Qc mc ms free) (vx_Post XC mc ms free) := by
  intro m meth c A g ig mk a X hg hsize hdg hW hn hp
  have h1 : (headSpec ws rm).pre.before a A.U = true := atoms_intro fun w hw => hws w hw _ _ X.warmed
  have h2 : (Cond.codeWith y bytes maxL ret hh).before a A.U = true := hws _ hcode _ _ X.warmed
  have h3 : (Cond.initialized y.cls).before a A.U = true := hinit _ _ X.warmed
  have h4 : A.cells + (headSpec ws rm).room.cells ≤ R.cells := by rw [show (headSpec ws rm).room.cells = mc from hrc]; exact hp.1
  have h5 : A.slots + (headSpec ws rm).room.slots ≤ R.slots := by rw [show (headSpec ws rm).room.slots = ms from hrs]; exact hp.2.1
  have hPc : Pc a (A.U.calling g mk a) := hblind _ _ _ _ hp.2.2
  obtain ⟨U, Ls, c0, s0⟩ := A
  dsimp only [Pt.U, Pt.locs, Pt.cells, Pt.slots] at h1 h2 h3 h4 h5 X hn hPc ⊢
  obtain ⟨m9, methY, cY, hn9, hmY, hcY, -, hlY, -⟩ := Cond.codeWith_spec h2
  cases Option.some.inj (hn9.symm.trans hn)
  obtain ⟨kY, hkY, -⟩ := className_of_methodNamed hn
  have hinitY : kY.init = .initialized := Cond.initialized_spec (findClass_of_methodNamed hn) hkY h3
  have h : At U g.method c below := by rw [hg]; exact X.here
  have hlocals9 : W9 + (maxL + 11) + (headSpec ws rm).room.locals ≤ R.locals := hlocals
  have happ : (headSpec ws rm).appliesLoose y e.platform (U.calling g mk a) = true :=
    Spec.appliesLoose_calling (g := g) h hdg hn hkY hinitY
      (X.room_calling (g := g) (R' := (headSpec ws rm).room) hsize hmY hcY hframes (by rw [hlY]; omega) h4 h5) h1
  obtain ⟨mid, hmid⟩ := h.above
  have hfr : (U.setTop g).frames = (.java g :: mid) ++ below := by rw [State.frames_setTop' g h.top, hmid]; rfl
  obtain ⟨o, s₂, hsteps, -, hend, hq⟩ := Steps.callFree hM p X.admits X.cas X.clock (acts := []) hfr happ hPc trivial
  have hq' : vx_Q Qc XC mc ms free a (U.calling g mk a) o s₂ := hq
  rw [State.frames_setTop' g h.top] at hend
  obtain ⟨g₀, hg0⟩ := Option.isSome_iff_exists.mp h.top
  obtain ⟨r, hr⟩ := State.topJava?_eq_some.mp hg0
  have hr' : (({ U with heap := s₂.heap, slotsUsed := s₂.slotsUsed } : State).setVm s₂.vm).frames = .java g₀ :: r := hr
  rcases hq' with ⟨hqc, L, hfe, hL⟩ | ⟨q, rfl, E, ce, L, hx, hce, hcv, hcl, hW₂, hsm, hL⟩
  · obtain ⟨⟨v, rfl⟩, hW₂, e2, q2, q3, q4, q5, q6⟩ := id hfe
    have e3 : s₂ = ({ (U.calling g mk a).setFrames s₂.frames with heap := s₂.heap, slotsUsed := s₂.slotsUsed } : State).setVm s₂.vm := by
      have : s₂ = ({ s₂ with vm := (U.calling g mk a).vm } : State).setVm s₂.vm := rfl
      rw [e2] at this
      exact this
    obtain ⟨c₂, i₂, len₂, hc₂, hd₂, hf₂⟩ := hend
    have hW' : U.WarmedH s₂.vm := hW₂
    have hcc : c₂ = c := by
      have h1 : s₂.code? g.method = U.code? g.method := by
        rw [State.code?_eq, State.code?_eq, hW'.alike.method?]
      exact Option.some.inj (hc₂.symm.trans (h1.trans h.code))
    subst hcc
    have hlen : len₂ = len := by rw [hdg] at hd₂; cases hd₂; rfl
    subst hlen
    have hs₂ : s₂ = (({ U with heap := s₂.heap, slotsUsed := s₂.slotsUsed } : State).setVm s₂.vm).setTop { g with pc := g.pc + len₂, stack := v.toList ++ g.stack } := by
      refine e3.trans ?_
      rw [hf₂, State.calling_eq h.top, State.setFrames_setFrames, State.setTop_of_frames _ hr', hr]
      rfl
    have hsame : U.sameButNew ({ U with heap := s₂.heap, slotsUsed := s₂.slotsUsed } : State) L mc ms := by
      refine ⟨?_, q2, q3, q4, q5, q6⟩
      obtain ⟨t, ht, -⟩ := State.frames_cons hr
      show ({ U with heap := s₂.heap, slotsUsed := s₂.slotsUsed } : State) = { U.setFrames U.frames with heap := s₂.heap, slotsUsed := s₂.slotsUsed }
      rw [State.setFrames_self ht]
    subst hg
    refine Or.inl ⟨v, ⟨(({ U with heap := s₂.heap, slotsUsed := s₂.slotsUsed } : State).setVm s₂.vm), Ls ++ L, c0 + mc, s0 + ms⟩,
      ⟨X.admits, X.cas, X.clock, X.frames, X.room, X.hears, X.method, X.code, (X.here.setHeapUsed s₂.heap s₂.slotsUsed).setVm hW'.alike, X.tail, State.WarmedH.trans X.warmed hW', X.limits, X.bytes, X.same.trans (hsame.setVm s.vm)⟩,
      ⟨g, mk, s₂, L, rfl, rfl, hqc, rfl, hL, rfl, rfl⟩, ?_⟩
    show Steps p.tables e below _ ((({ U with heap := s₂.heap, slotsUsed := s₂.slotsUsed } : State).setVm s₂.vm).setTop { g with pc := g.pc + len₂, stack := v.toList ++ g.stack })
    rw [← hs₂]
    exact hsteps
  · obtain ⟨e2, q2, q3, q4, q5, q6⟩ := id hsm
    have e3 : s₂ = ({ (U.calling g mk a).setFrames s₂.frames with heap := s₂.heap, slotsUsed := s₂.slotsUsed } : State).setVm s₂.vm := by
      have : s₂ = ({ s₂ with vm := (U.calling g mk a).vm } : State).setVm s₂.vm := rfl
      rw [e2] at this
      exact this
    have hf₂ : s₂.frames = .throwing q :: .java g :: U.frames.tail := hend
    have hW' : U.WarmedH s₂.vm := hW₂
    have hs₂ : s₂ = ((({ U with heap := s₂.heap, slotsUsed := s₂.slotsUsed } : State).setVm s₂.vm).setTop g).pushFrame (.throwing q) := by
      refine e3.trans ?_
      rw [hf₂, State.calling_eq h.top, State.setFrames_setFrames, State.pushFrame, State.frames_setTop _ hr', State.setTop_of_frames _ hr', State.setFrames_setFrames, hr]
      rfl
    have hsame : U.sameButNew ({ U with heap := s₂.heap, slotsUsed := s₂.slotsUsed } : State) L mc ms := by
      refine ⟨?_, q2, q3, q4, q5, q6⟩
      obtain ⟨t, ht, -⟩ := State.frames_cons hr
      show ({ U with heap := s₂.heap, slotsUsed := s₂.slotsUsed } : State) = { U.setFrames U.frames with heap := s₂.heap, slotsUsed := s₂.slotsUsed }
      rw [State.setFrames_self ht]
    subst hg
    refine Or.inr ⟨q, ⟨(({ U with heap := s₂.heap, slotsUsed := s₂.slotsUsed } : State).setVm s₂.vm), Ls ++ L, c0 + mc, s0 + ms⟩,
      ⟨X.admits, X.cas, X.clock, X.frames, X.room, X.hears, X.method, X.code, (X.here.setHeapUsed s₂.heap s₂.slotsUsed).setVm hW'.alike, X.tail, State.WarmedH.trans X.warmed hW', X.limits, X.bytes, X.same.trans (hsame.setVm s.vm)⟩,
      ⟨g, mk, s₂, L, E, ce, rfl, rfl, hx, hce, hcv, hcl, rfl, hL, rfl, rfl⟩, ?_⟩
    show Steps p.tables e below _ (((({ U with heap := s₂.heap, slotsUsed := s₂.slotsUsed } : State).setVm s₂.vm).setTop g).pushFrame (.throwing q))
    rw [← hs₂]
    exact hsteps
end
variable {p : Program} {l : Launch} {e : Env} {R : Room} {s : State} {m : MethodId} {args : Array Value} {below : List Frame} {meth : Method} {c : Code} {T : State} {H : Heap} {locs : List Loc} {cells slots : Nat}
theorem vx_callVX (X : Stand p l e R s m args below meth c T locs cells slots) (hexec : p.tables.exec = Jvm.exec) {own C : String} {index : Nat} {y : MethodName} {bytes : ByteArray} {maxL : Nat} {ret : Option FieldType} {hh : List (Nat × Nat × Nat × Nat)}
    (hown : s.vm.findClass own = some m.cls) (hlink : (Cond.methodLink own index y).before args s = true) (hinst : (Cond.instanceMethod y).before args s = true) (hsel : (Cond.selects C y y).before args s = true)
    (hcode : (Cond.codeWith y bytes maxL ret hh).before args s = true) (hy : y.cls ≠ "java/lang/invoke/MethodHandle" ∧ y.cls ≠ "java/lang/invoke/VarHandle")
    {W9 : Nat} {Pre : Pt → Array Value → Prop} {Post : Pt → Array Value → Option Value → Pt → Prop} {PostX : Pt → Array Value → Addr → Pt → Prop} (hK : vx_Back l R p e below s args y 3 W9 Pre Post PostX)
    {b : Addr} {cellB : Cell} (hcell : T.heap[b]? = some cellB) (hobj : cellB.vm.isStatics = false) (hcls : s.vm.findClass C = some cellB.cls)
    {g : JFrame} (hg : g.method = m) (hsize : g.locals.size = c.maxLocals) {argsL rest : List Value} (hlen : ∀ sig, parseMethodDescriptor y.desc = some sig → argsL.length = sig.parameters.length)
    (hstack : g.stack = argsL.reverse ++ .ref b :: rest) (hW : 2 * g.monitorRoom + (rest.map fun v => v.category).sum ≤ W9) (hdg : decode c.code g.pc = .ok (.invokevirtual index, 3))
    (hpre : ∀ vm₁, s.WarmedH vm₁ → Pre ⟨T.setVm vm₁, locs, cells, slots⟩ (Value.ref b :: argsL).toArray) :
    (∃ (v : Option Value) (vm₁ : Vm) (B : Pt), s.WarmedH vm₁ ∧ Stand p l e R s m args below meth c B.U B.locs B.cells B.slots ∧ Post ⟨T.setVm vm₁, locs, cells, slots⟩ (Value.ref b :: argsL).toArray v B ∧
      ∀ target, Steps p.tables e below (B.U.setTop { g with pc := g.pc + 3, stack := v.toList ++ rest }) target → Steps p.tables e below (T.setTop g) target) ∨
    (∃ (q : Addr) (vm₁ : Vm) (B : Pt), s.WarmedH vm₁ ∧ Stand p l e R s m args below meth c B.U B.locs B.cells B.slots ∧ PostX ⟨T.setVm vm₁, locs, cells, slots⟩ (Value.ref b :: argsL).toArray q B ∧
      Steps p.tables e below (T.setTop g) ((B.U.setTop { g with stack := rest }).pushFrame (.throwing q))) := by
  obtain ⟨mk, methM, hnamed, hmethM, hstM, habM⟩ := Cond.instanceMethod_spec hinst
  obtain ⟨m8, methM', cM, hn8, hmethM', -, -, -, -, -, -, hsigM⟩ := Cond.codeWith_spec hcode
  cases Option.some.inj (hn8.symm.trans hnamed)
  cases hmethM.symm.trans hmethM'
  obtain ⟨c2, r2, m2, q1, q2, q3, q4, kP, hkP, hkPi⟩ := Cond.selects_spec hsel
  cases hcls.symm.trans q1
  cases (State.methodFound?_of_named hnamed hy).symm.trans q2
  cases hnamed.symm.trans q3
  have hselP : selectMethod e.platform s.vm cellB.cls mk = .method mk := by rw [Launch.admits_selectMethod X.admits]; exact q4
  obtain ⟨vm₁, X₁, hstep₁⟩ := X.invokevirtual hexec hown hlink hnamed hmethM hstM hkP hkPi hy (a := b) (cell := cellB) hcell
    (fun z h => by rw [h] at hobj; cases hobj) hselP hmethM habM hkP hkPi (g := g) hg (argsL := argsL) (rest := rest) (hlen _ hsigM) hstack hdg
  rcases hK m meth c ⟨T.setVm vm₁, locs, cells, slots⟩ { g with stack := rest } (.invokevirtual index) mk (Value.ref b :: argsL).toArray X₁ hg hsize hdg hW (X₁.named hnamed) (hpre vm₁ X₁.warmed) with ⟨v, B, X', hpost, hsteps⟩ | ⟨q, B, X', hpost, hsteps⟩
  · exact Or.inl ⟨v, vm₁, B, X₁.warmed, X', hpost, fun target h => hstep₁ _ fun acts => by rw [doInvoke_state]; exact hsteps.trans h⟩
  · exact Or.inr ⟨q, vm₁, B, X₁.warmed, X', hpost, hstep₁ _ fun acts => by rw [doInvoke_state]; exact hsteps⟩
theorem vx_callSX (X : Stand p l e R s m args below meth c T locs cells slots) (hexec : p.tables.exec = Jvm.exec) {own : String} {index : Nat} {y : MethodName} {bytes : ByteArray} {maxL : Nat} {ret : Option FieldType} {hh : List (Nat × Nat × Nat × Nat)}
    (hown : s.vm.findClass own = some m.cls) (hlink : (Cond.methodLink own index y).before args s = true) (hstat : (Cond.static y).before args s = true) (hinit : (Cond.initialized y.cls).before args s = true)
    (hcode : (Cond.codeWith y bytes maxL ret hh).before args s = true) (hy : y.cls ≠ "java/lang/invoke/MethodHandle" ∧ y.cls ≠ "java/lang/invoke/VarHandle")
    {W9 : Nat} {Pre : Pt → Array Value → Prop} {Post : Pt → Array Value → Option Value → Pt → Prop} {PostX : Pt → Array Value → Addr → Pt → Prop} (hK : vx_Back l R p e below s args y 3 W9 Pre Post PostX)
    {g : JFrame} (hg : g.method = m) (hsize : g.locals.size = c.maxLocals) {argsL rest : List Value} (hlen : ∀ sig, parseMethodDescriptor y.desc = some sig → argsL.length = sig.parameters.length)
    (hstack : g.stack = argsL.reverse ++ rest) (hW : 2 * g.monitorRoom + (rest.map fun v => v.category).sum ≤ W9) (hdg : decode c.code g.pc = .ok (.invokestatic index, 3))
    (hpre : ∀ vm₁, s.WarmedH vm₁ → Pre ⟨T.setVm vm₁, locs, cells, slots⟩ argsL.toArray) :
    (∃ (v : Option Value) (vm₁ : Vm) (B : Pt), s.WarmedH vm₁ ∧ Stand p l e R s m args below meth c B.U B.locs B.cells B.slots ∧ Post ⟨T.setVm vm₁, locs, cells, slots⟩ argsL.toArray v B ∧
      ∀ target, Steps p.tables e below (B.U.setTop { g with pc := g.pc + 3, stack := v.toList ++ rest }) target → Steps p.tables e below (T.setTop g) target) ∨
    (∃ (q : Addr) (vm₁ : Vm) (B : Pt), s.WarmedH vm₁ ∧ Stand p l e R s m args below meth c B.U B.locs B.cells B.slots ∧ PostX ⟨T.setVm vm₁, locs, cells, slots⟩ argsL.toArray q B ∧
      Steps p.tables e below (T.setTop g) ((B.U.setTop { g with stack := rest }).pushFrame (.throwing q))) := by
  obtain ⟨mk, methM, cM, hnamed, hmethM, -, -, -, -, -, -, hsigM⟩ := Cond.codeWith_spec hcode
  have hstatic : methM.isStatic = true := Cond.static_spec hnamed hmethM hstat
  obtain ⟨kP, hkP, -⟩ := className_of_methodNamed hnamed
  have hinitP : kP.init = .initialized := Cond.initialized_spec (findClass_of_methodNamed hnamed) hkP hinit
  obtain ⟨vm₁, X₁, hstep₁⟩ := X.invokestatic hexec hown hlink hnamed hmethM hstatic hkP hinitP hy (g := g) hg (argsL := argsL) (rest := rest) (hlen _ hsigM) hstack hdg
  rcases hK m meth c ⟨T.setVm vm₁, locs, cells, slots⟩ { g with stack := rest } (.invokestatic index) mk argsL.toArray X₁ hg hsize hdg hW (X₁.named hnamed) (hpre vm₁ X₁.warmed) with ⟨v, B, X', hpost, hsteps⟩ | ⟨q, B, X', hpost, hsteps⟩
  · exact Or.inl ⟨v, vm₁, B, X₁.warmed, X', hpost, fun target h => hstep₁ _ fun acts => by rw [doInvoke_state]; exact hsteps.trans h⟩
  · exact Or.inr ⟨q, vm₁, B, X₁.warmed, X', hpost, hstep₁ _ fun acts => by rw [doInvoke_state]; exact hsteps⟩
theorem vx_callVW (X : Stand p l e R s m args below meth c T locs cells slots) (hexec : p.tables.exec = Jvm.exec) {own C : String} {index : Nat} {y : MethodName} {bytes : ByteArray} {maxL : Nat} {ret : Option FieldType} {hh : List (Nat × Nat × Nat × Nat)}
    (hown : s.vm.findClass own = some m.cls) (hlink : (Cond.methodLink own index y).before args s = true) (hinst : (Cond.instanceMethod y).before args s = true) (hsel : (Cond.selects C y y).before args s = true)
    (hcode : (Cond.codeWith y bytes maxL ret hh).before args s = true) (hy : y.cls ≠ "java/lang/invoke/MethodHandle" ∧ y.cls ≠ "java/lang/invoke/VarHandle")
    {W9 : Nat} {Pre : Pt → Array Value → Prop} {Post : Pt → Array Value → Option Value → Pt → Prop} (hK : Back l R p e below s args y 3 W9 Pre Post)
    {b : Addr} {cellB : Cell} (hcell : T.heap[b]? = some cellB) (hobj : cellB.vm.isStatics = false) (hcls : s.vm.findClass C = some cellB.cls)
    {g : JFrame} (hg : g.method = m) (hsize : g.locals.size = c.maxLocals) {argsL rest : List Value} (hlen : ∀ sig, parseMethodDescriptor y.desc = some sig → argsL.length = sig.parameters.length)
    (hstack : g.stack = argsL.reverse ++ .ref b :: rest) (hW : 2 * g.monitorRoom + (rest.map fun v => v.category).sum ≤ W9) (hdg : decode c.code g.pc = .ok (.invokevirtual index, 3))
    (hpre : ∀ vm₁, s.WarmedH vm₁ → Pre ⟨T.setVm vm₁, locs, cells, slots⟩ (Value.ref b :: argsL).toArray) :
    ∃ (v : Option Value) (vm₁ : Vm) (B : Pt), s.WarmedH vm₁ ∧ Stand p l e R s m args below meth c B.U B.locs B.cells B.slots ∧ Post ⟨T.setVm vm₁, locs, cells, slots⟩ (Value.ref b :: argsL).toArray v B ∧
      ∀ target, Steps p.tables e below (B.U.setTop { g with pc := g.pc + 3, stack := v.toList ++ rest }) target → Steps p.tables e below (T.setTop g) target := by
  obtain ⟨mk, methM, hnamed, hmethM, hstM, habM⟩ := Cond.instanceMethod_spec hinst
  obtain ⟨m8, methM', cM, hn8, hmethM', -, -, -, -, -, -, hsigM⟩ := Cond.codeWith_spec hcode
  cases Option.some.inj (hn8.symm.trans hnamed)
  cases hmethM.symm.trans hmethM'
  obtain ⟨c2, r2, m2, q1, q2, q3, q4, kP, hkP, hkPi⟩ := Cond.selects_spec hsel
  cases hcls.symm.trans q1
  cases (State.methodFound?_of_named hnamed hy).symm.trans q2
  cases hnamed.symm.trans q3
  have hselP : selectMethod e.platform s.vm cellB.cls mk = .method mk := by rw [Launch.admits_selectMethod X.admits]; exact q4
  obtain ⟨vm₁, X₁, hstep₁⟩ := X.invokevirtual hexec hown hlink hnamed hmethM hstM hkP hkPi hy (a := b) (cell := cellB) hcell
    (fun z h => by rw [h] at hobj; cases hobj) hselP hmethM habM hkP hkPi (g := g) hg (argsL := argsL) (rest := rest) (hlen _ hsigM) hstack hdg
  obtain ⟨v, B, X', hpost, hsteps⟩ := hK m meth c ⟨T.setVm vm₁, locs, cells, slots⟩ { g with stack := rest } (.invokevirtual index) mk (Value.ref b :: argsL).toArray X₁ hg hsize hdg hW (X₁.named hnamed) (hpre vm₁ X₁.warmed)
  exact ⟨v, vm₁, B, X₁.warmed, X', hpost, fun target h => hstep₁ _ fun acts => by rw [doInvoke_state]; exact hsteps.trans h⟩
abbrev vx_CVW (R : Room) (s : State) (args : Array Value) (own C : String) (index : Nat) (y : MethodName) (bytes : ByteArray) (maxL : Nat) (ret : Option FieldType) (hh : List (Nat × Nat × Nat × Nat)) (ws : List Cond) (rm : Room) (mc ms n : Nat) : Prop :=
  (rm.cells = mc ∧ rm.slots = ms ∧ rm.frames + 1 ≤ R.frames ∧ 8 + (maxL + 11) + rm.locals ≤ R.locals ∧ (∀ w ∈ ws, ∀ (a' : Array Value) (U : State), s.WarmedH U.vm → w.before a' U = true) ∧ Cond.codeWith y bytes maxL ret hh ∈ ws) ∧
  (Cond.codeWith y bytes maxL ret hh).before args s = true ∧ (Cond.initialized y.cls).before args s = true ∧ (y.cls ≠ "java/lang/invoke/MethodHandle" ∧ y.cls ≠ "java/lang/invoke/VarHandle") ∧
  (∀ sig, parseMethodDescriptor y.desc = some sig → n = sig.parameters.length) ∧ (Cond.methodLink own index y).before args s = true ∧ (Cond.instanceMethod y).before args s = true ∧ (Cond.selects C y y).before args s = true
theorem vx_cwVW {own C : String} {index maxL mc ms : Nat} {y : MethodName} {bytes : ByteArray} {ret : Option FieldType} {hh : List (Nat × Nat × Nat × Nat)} {Ts ws ws' : List Cond} {rm : Room} (n : Nat) (ht : ∀ w ∈ Ts, w.before args s = true) (hT : GoodIn Ts (wsV own index C y ws)) (hw : ws = Cond.codeWith y bytes maxL ret hh :: ws') (hrc : rm.cells = mc) (hrs : rm.slots = ms)
    (hd : y.cls = C ∧ y.cls ≠ "java/lang/invoke/MethodHandle" ∧ y.cls ≠ "java/lang/invoke/VarHandle" ∧ (parseMethodDescriptor y.desc).map (fun d => d.parameters.length) = some n) (hR : rm.frames + 1 ≤ R.frames ∧ 8 + (maxL + 11) + rm.locals ≤ R.locals) :
    vx_CVW R s args own C index y bytes maxL ret hh ws rm mc ms n := by
  obtain ⟨hC, hd⟩ := hd
  subst hC
  have ok : ∀ w ∈ wsV own index y.cls y ws, w.before args s = true := fun w h => ht w (hT w h).1
  have hG : GoodIn Ts ws := fun w h => hT w (by unfold wsV; exact List.mem_append_right _ h)
  have hc : Cond.codeWith y bytes maxL ret hh ∈ ws := by rw [hw]; exact List.mem_cons_self
  refine ⟨⟨hrc, hrs, hR.1, hR.2, pay_in ht hG, hc⟩, ht _ (hG _ hc).1, ok _ (by simp [wsV]), ⟨hd.1, hd.2.1⟩, fun sig h => ?_, ok _ (by simp [wsV]), ok _ (by simp [wsV]), ok _ (by simp [wsV])⟩
  have h2 := hd.2.2
  rw [h] at h2
  exact (Option.some.inj h2).symm
theorem vx_runVW {y : MethodName} {bytes cc : ByteArray} {maxL nL mc ms n index : Nat} {ret : Option FieldType} {hh : List (Nat × Nat × Nat × Nat)} {ws : List Cond} {rm : Room} {Pc : Array Value → State → Prop} {Qc : Array Value → State → Outcome → State → Prop} {free : Addr → Prop} {Ts : List Cond} {own C : String} {b : Addr} {As rest : List Value} {g : JFrame}
    (S : CallFix p m c cc nL s args Ts own) (hM : Met l y ws rm Pc Qc mc ms free) (cw : vx_CVW R s args own C index y bytes maxL ret hh ws rm mc ms n) (hp : PreV s H C b Pc As)
    (hg : g.method = m) (hn : As.length = n) (hsize : g.locals.size = nL) (hstack : g.stack = As.reverse ++ .ref b :: rest) (hW : 2 * g.monitorRoom + (rest.map fun v => v.category).sum ≤ 8) (hdg : decode cc g.pc = .ok (.invokevirtual index, 3)) (hf : cells + mc ≤ R.cells ∧ slots + ms ≤ R.slots) :
    va_Run p l e R s m args below meth c H locs cells slots mc ms g rest (Qc (Value.ref b :: As).toArray) free := by
  obtain ⟨⟨hrc, hrs, hfr, hlo, hws, hcw⟩, hcode, hini, hy, hlen, hl, hin, hse⟩ := cw
  have hK : Back l R p e below s args y 3 8 (PreOf R mc ms Pc) (PostOf Qc mc ms free) := va_backW (hh := hh) (bytes := bytes) (maxL := maxL) (ret := ret) hM hp.1 hrc hrs hfr hlo hws hcw (fun a' U hW => word_at hW (Or.inl (by first | rfl | simp [Cond.onTables, Cond.keeps, Cond.steady])) hini)
  obtain ⟨hx, hb, hml, ho, -⟩ := S
  obtain ⟨-, ⟨cellB, hcB, hoB, hclB⟩, hPc⟩ := hp
  intro T hT X
  obtain ⟨v, vm₁, ⟨U', l2, c2, s2⟩, hW₁, X', ⟨g', mk, t, L, e1, e2, hq, h1, hL, h2, h3⟩, st⟩ := vx_callVW X hx (C := C) (hh := hh) (bytes := bytes) (maxL := maxL) (ret := ret) ho hl hin hse hcode hy hK (by rw [hT]; exact hcB) hoB hclB hg (hsize.trans hml.symm) (argsL := As) (rest := rest) (fun sig h => hn.trans (hlen sig h)) hstack hW (by rw [hb]; exact hdg)
    (fun vm₁ hW₁ => ⟨hf.1, hf.2, hPc (T.setVm vm₁) hT hW₁⟩)
  dsimp only [Pt.U, Pt.locs, Pt.cells, Pt.slots] at X' e1 e2 h1 h2 h3 st
  subst h1; subst h2; subst h3
  exact ⟨v, (T.setVm vm₁).calling g' mk (Value.ref b :: As).toArray, t, U', L, hT, X', hL, e1, e2, hq, st⟩
section
variable {y : MethodName} {bytes cc : ByteArray} {maxL nL mc ms n index : Nat} {ret : Option FieldType} {ws : List Cond} {rm : Room} {Pc : Array Value → State → Prop} {Qc : Array Value → State → Outcome → State → Prop} {XC : String → State → State → Prop} {free : Addr → Prop} {Ts : List Cond} {own C : String} {b : Addr} {As rest : List Value} {g : JFrame}
theorem vx_runVX {hh : List (Nat × Nat × Nat × Nat)} (S : CallFix p m c cc nL s args Ts own) (hM : vx_Met l y ws rm Pc Qc XC mc ms free) (cw : vx_CVW R s args own C index y bytes maxL ret hh ws rm mc ms n) (hp : PreV s H C b Pc As)
    (hg : g.method = m) (hn : As.length = n) (hsize : g.locals.size = nL) (hstack : g.stack = As.reverse ++ .ref b :: rest) (hW : 2 * g.monitorRoom + (rest.map fun v => v.category).sum ≤ 8) (hdg : decode cc g.pc = .ok (.invokevirtual index, 3)) (hf : cells + mc ≤ R.cells ∧ slots + ms ≤ R.slots) :
    vx_Run p l e R s m args below meth c H locs cells slots mc ms g rest (Qc (Value.ref b :: As).toArray) XC free := by
  obtain ⟨⟨hrc, hrs, hfr, hlo, hws, hcw⟩, hcode, hini, hy, hlen, hl, hin, hse⟩ := cw
  have hK : vx_Back l R p e below s args y 3 8 (PreOf R mc ms Pc) (PostOf Qc mc ms free) (vx_Post XC mc ms free) := vx_backW (hh := hh) (bytes := bytes) (maxL := maxL) (ret := ret) hM hp.1 hrc hrs hfr hlo hws hcw (fun a' U hW => word_at hW (Or.inl (by first | rfl | simp [Cond.onTables, Cond.keeps, Cond.steady])) hini)
  obtain ⟨hx, hb, hml, ho, -⟩ := S
  obtain ⟨-, ⟨cellB, hcB, hoB, hclB⟩, hPc⟩ := hp
  intro T hT X
  rcases vx_callVX X hx (C := C) (hh := hh) (bytes := bytes) (maxL := maxL) (ret := ret) ho hl hin hse hcode hy hK (by rw [hT]; exact hcB) hoB hclB hg (hsize.trans hml.symm) (argsL := As) (rest := rest) (fun sig h => hn.trans (hlen sig h)) hstack hW (by rw [hb]; exact hdg)
    (fun vm₁ hW₁ => ⟨hf.1, hf.2, hPc (T.setVm vm₁) hT hW₁⟩) with ⟨v, vm₁, ⟨U', l2, c2, s2⟩, hW₁, X', ⟨g', mk, t, L, e1, e2, hq, h1, hL, h2, h3⟩, st⟩ | ⟨q, vm₁, ⟨U', l2, c2, s2⟩, hW₁, X', ⟨g', mk, t, L, E, ce, e1, e2, hq, hce, hcv, hcl, h1, hL, h2, h3⟩, st⟩
  · dsimp only [Pt.U, Pt.locs, Pt.cells, Pt.slots] at X' e1 e2 h1 h2 h3 st
    subst h1; subst h2; subst h3
    exact Or.inl ⟨v, (T.setVm vm₁).calling g' mk (Value.ref b :: As).toArray, t, U', L, hT, X', hL, e1, e2, hq, st⟩
  · dsimp only [Pt.U, Pt.locs, Pt.cells, Pt.slots] at X' e1 e2 h1 h2 h3 st hcl
    subst h1; subst h2; subst h3
    exact Or.inr ⟨q, (T.setVm vm₁).calling g' mk (Value.ref b :: As).toArray, t, U', L, E, ce, hT, X', hL, e1, e2, hq, hce, hcv, vx_cls hW₁ hcl, st⟩
theorem vx_runSX {hh : List (Nat × Nat × Nat × Nat)} (S : CallFix p m c cc nL s args Ts own) (hM : vx_Met l y ws rm Pc Qc XC mc ms free) (cw : vx_CSW R s args own index y bytes maxL ret hh ws rm mc ms n) (hp : PreS s H Pc As)
    (hg : g.method = m) (hn : As.length = n) (hsize : g.locals.size = nL) (hstack : g.stack = As.reverse ++ rest) (hW : 2 * g.monitorRoom + (rest.map fun v => v.category).sum ≤ 8) (hdg : decode cc g.pc = .ok (.invokestatic index, 3)) (hf : cells + mc ≤ R.cells ∧ slots + ms ≤ R.slots) :
    vx_Run p l e R s m args below meth c H locs cells slots mc ms g rest (Qc As.toArray) XC free := by
  obtain ⟨⟨hrc, hrs, hfr, hlo, hws, hcw⟩, hcode, hini, hy, hlen, hl, hstt⟩ := cw
  have hK : vx_Back l R p e below s args y 3 8 (PreOf R mc ms Pc) (PostOf Qc mc ms free) (vx_Post XC mc ms free) := vx_backW (hh := hh) (bytes := bytes) (maxL := maxL) (ret := ret) hM hp.1 hrc hrs hfr hlo hws hcw (fun a' U hW => word_at hW (Or.inl (by first | rfl | simp [Cond.onTables, Cond.keeps, Cond.steady])) hini)
  obtain ⟨hx, hb, hml, ho, -⟩ := S
  intro T hT X
  rcases vx_callSX X hx (hh := hh) (bytes := bytes) (maxL := maxL) (ret := ret) ho hl hstt hini hcode hy hK hg (hsize.trans hml.symm) (argsL := As) (rest := rest) (fun sig h => hn.trans (hlen sig h)) hstack hW (by rw [hb]; exact hdg)
    (fun vm₁ hW₁ => ⟨hf.1, hf.2, hp.2 (T.setVm vm₁) hT hW₁⟩) with ⟨v, vm₁, ⟨U', l2, c2, s2⟩, hW₁, X', ⟨g', mk, t, L, e1, e2, hq, h1, hL, h2, h3⟩, st⟩ | ⟨q, vm₁, ⟨U', l2, c2, s2⟩, hW₁, X', ⟨g', mk, t, L, E, ce, e1, e2, hq, hce, hcv, hcl, h1, hL, h2, h3⟩, st⟩
  · dsimp only [Pt.U, Pt.locs, Pt.cells, Pt.slots] at X' e1 e2 h1 h2 h3 st
    subst h1; subst h2; subst h3
    exact Or.inl ⟨v, (T.setVm vm₁).calling g' mk As.toArray, t, U', L, hT, X', hL, e1, e2, hq, st⟩
  · dsimp only [Pt.U, Pt.locs, Pt.cells, Pt.slots] at X' e1 e2 h1 h2 h3 st hcl
    subst h1; subst h2; subst h3
    exact Or.inr ⟨q, (T.setVm vm₁).calling g' mk As.toArray, t, U', L, E, ce, hT, X', hL, e1, e2, hq, hce, hcv, vx_cls hW₁ hcl, st⟩
end
end VXH
theorem vx_ofWH {l : Launch} {y : MethodName} {ws ws' : List Cond} {rm : Room} {Pc : Array Value → State → Prop} {Qc : Array Value → State → Outcome → State → Prop} {XC : String → State → State → Prop} {mc ms : Nat} {free : Addr → Prop} {cc : ByteArray} {maxL : Nat} {ret : Option FieldType} {hh : List (Nat × Nat × Nat × Nat)}
    (hy : plainName y.cls = true) (hw : ws = Cond.codeWith y cc maxL ret hh :: ws')
    (body : ∀ p e s m args below meth c s₁, BodyLoose p l y (headSpec ws rm) cc maxL ret e s m args below meth c s₁ → c.maxLocals = maxL → Pc args s →
      W p l e (headSpec ws rm).room s m args below meth c s.heap [] 0 0 (vx_MQ below Qc XC args s mc ms free) (entryFrame m args maxL)) : vx_Met l y ws rm Pc Qc XC mc ms free := by
  refine MetFree.of_bodyS (code := cc) (maxLocals := maxL) (ret := ret) hy ?_ ?_
  · intro args s m h hn
    obtain ⟨m9, meth, c, hn9, h1, h2, h3, h4, -, h5, h6, -⟩ := Cond.codeWith_spec (atoms_spec (ws := ws) h _ (by rw [hw]; exact List.mem_cons_self))
    cases hn.symm.trans hn9
    exact ⟨meth, c, h1, h2, h3, h4, h5, h6⟩
  · intro p e s m args below meth c s₁ B hml hP _
    have hh0 : s₁.heap = s.heap := by rw [B.state]; rfl
    obtain ⟨t, a1, o, b1, b2, b3⟩ := body p e s m args below meth c s₁ B hml hP s₁ hh0 (Stand.of_body B)
    exact ⟨t, o, a1, b1, b2, b3⟩
/-! ===== END ===== -/
end
section
def RX0 : String := "HerbLoft$Herb"
def TX0 : u_T := fun k => match k with
  | 0 => ("HerbLoft$Herb", "number", "I", true)
  | 1 => ("HerbLoft$Herb", "ease", "I", true)
  | _ => ("HerbLoft$Herb", "limit", "I", true)
def tyX0 : Nat → FieldType := fun k => match k with
  | 0 => .int
  | 1 => .int
  | _ => .int
abbrev wsX00 : List Cond := u_ws RX0 TX0 3
theorem nmX0 : ∀ a, a < 3 → ∀ b, b < 3 → a ≠ b → (TX0 a).2.1 ≠ (TX0 b).2.1 := by decide +kernel
theorem tyX0_ok : ∀ k, k < 3 → parseFieldDescriptor (TX0 k).2.2.1 = some (tyX0 k) := by decide +kernel
abbrev cX0_init : ByteArray := prog_2_method_1_code
def yX0_init : MethodName := ⟨RX0, "<init>", "(III)V"⟩
def RX1 : String := "HerbLoft$Hook"
def TX1 : u_T := fun k => match k with
  | 0 => ("HerbLoft$Hook", "string", "I", true)
  | 1 => ("HerbLoft$Hook", "before", "LHerbLoft$Hook;", false)
  | 2 => ("HerbLoft$Hook", "after", "LHerbLoft$Hook;", false)
  | 3 => ("HerbLoft$Hook", "herb", "LHerbLoft$Herb;", false)
  | 4 => ("HerbLoft$Hook", "front", "I", false)
  | 5 => ("HerbLoft$Hook", "back", "I", false)
  | 6 => ("HerbLoft$Hook", "wetDays", "I", false)
  | 7 => ("HerbLoft$Hook", "mould", "I", false)
  | 8 => ("HerbLoft$Hook", "force", "I", false)
  | _ => ("HerbLoft$Hook", "besideSpreading", "Z", false)
def tyX1 : Nat → FieldType := fun k => match k with
  | 0 => .int
  | 1 => .object "HerbLoft$Hook"
  | 2 => .object "HerbLoft$Hook"
  | 3 => .object "HerbLoft$Herb"
  | 4 => .int
  | 5 => .int
  | 6 => .int
  | 7 => .int
  | 8 => .int
  | _ => .boolean
abbrev wsX10 : List Cond := u_ws RX1 TX1 10
theorem nmX1 : ∀ a, a < 10 → ∀ b, b < 10 → a ≠ b → (TX1 a).2.1 ≠ (TX1 b).2.1 := by decide +kernel
theorem tyX1_ok : ∀ k, k < 10 → parseFieldDescriptor (TX1 k).2.2.1 = some (tyX1 k) := by decide +kernel
abbrev cX1_init : ByteArray := prog_3_method_1_code
def yX1_init : MethodName := ⟨RX1, "<init>", "(I)V"⟩
abbrev cX1_isTaken : ByteArray := prog_3_method_2_code
def yX1_isTaken : MethodName := ⟨RX1, "isTaken", "()Z"⟩
abbrev cX1_isTakenBy : ByteArray := prog_3_method_3_code
def yX1_isTakenBy : MethodName := ⟨RX1, "isTakenBy", "(LHerbLoft$Herb;)Z"⟩
abbrev cX1_isMouldy : ByteArray := prog_3_method_4_code
def yX1_isMouldy : MethodName := ⟨RX1, "isMouldy", "()Z"⟩
abbrev cX1_wetness : ByteArray := prog_3_method_5_code
def yX1_wetness : MethodName := ⟨RX1, "wetness", "()I"⟩
abbrev cX1_fits : ByteArray := prog_3_method_6_code
def yX1_fits : MethodName := ⟨RX1, "fits", "(LHerbLoft$Order;)Z"⟩
abbrev cX1_receiveNew : ByteArray := prog_3_method_7_code
def yX1_receiveNew : MethodName := ⟨RX1, "receiveNew", "(LHerbLoft$Herb;I)V"⟩
abbrev cX1_clear : ByteArray := prog_3_method_8_code
def yX1_clear : MethodName := ⟨RX1, "clear", "()V"⟩
abbrev cX1_copyBundleOf : ByteArray := prog_3_method_9_code
def yX1_copyBundleOf : MethodName := ⟨RX1, "copyBundleOf", "(LHerbLoft$Hook;)V"⟩
abbrev cX1_exchangeSides : ByteArray := prog_3_method_10_code
def yX1_exchangeSides : MethodName := ⟨RX1, "exchangeSides", "()V"⟩
abbrev cX1_neighbours : ByteArray := prog_3_method_11_code
def yX1_neighbours : MethodName := ⟨RX1, "neighbours", "()I"⟩
abbrev cX1_wetterNeighbours : ByteArray := prog_3_method_12_code
def yX1_wetterNeighbours : MethodName := ⟨RX1, "wetterNeighbours", "()I"⟩
abbrev cX1_isWetterThan : ByteArray := prog_3_method_13_code
def yX1_isWetterThan : MethodName := ⟨RX1, "isWetterThan", "(LHerbLoft$Hook;)Z"⟩
abbrev cX1_spreadsMould : ByteArray := prog_3_method_14_code
def yX1_spreadsMould : MethodName := ⟨RX1, "spreadsMould", "()Z"⟩
abbrev cX1_beginDay : ByteArray := prog_3_method_15_code
def yX1_beginDay : MethodName := ⟨RX1, "beginDay", "(II)V"⟩
abbrev cX1_endDay : ByteArray := prog_3_method_16_code
def yX1_endDay : MethodName := ⟨RX1, "endDay", "()V"⟩
abbrev cX1_tells : ByteArray := prog_3_method_17_code
def yX1_tells : MethodName := ⟨RX1, "tells", "(I)I"⟩
def RX2 : String := "HerbLoft$Order"
def TX2 : u_T := fun k => match k with
  | 0 => ("HerbLoft$Order", "herb", "LHerbLoft$Herb;", true)
  | 1 => ("HerbLoft$Order", "many", "I", true)
  | 2 => ("HerbLoft$Order", "wet", "I", true)
  | _ => ("HerbLoft$Order", "got", "I", false)
def tyX2 : Nat → FieldType := fun k => match k with
  | 0 => .object "HerbLoft$Herb"
  | 1 => .int
  | 2 => .int
  | _ => .int
abbrev wsX20 : List Cond := u_ws RX2 TX2 4
theorem nmX2 : ∀ a, a < 4 → ∀ b, b < 4 → a ≠ b → (TX2 a).2.1 ≠ (TX2 b).2.1 := by decide +kernel
theorem tyX2_ok : ∀ k, k < 4 → parseFieldDescriptor (TX2 k).2.2.1 = some (tyX2 k) := by decide +kernel
abbrev cX2_init : ByteArray := prog_4_method_1_code
def yX2_init : MethodName := ⟨RX2, "<init>", "(LHerbLoft$Herb;II)V"⟩
abbrev cX2_needsSome : ByteArray := prog_4_method_2_code
def yX2_needsSome : MethodName := ⟨RX2, "needsSome", "()Z"⟩
def RX3 : String := "HerbLoft$Rack"
def TX3 : u_T := fun k => match k with
  | _ => ("HerbLoft$Rack", "hooks", "[LHerbLoft$Hook;", true)
def tyX3 : Nat → FieldType := fun k => match k with
  | _ => .array (.object "HerbLoft$Hook")
abbrev wsX30 : List Cond := u_ws RX3 TX3 1
theorem nmX3 : ∀ a, a < 1 → ∀ b, b < 1 → a ≠ b → (TX3 a).2.1 ≠ (TX3 b).2.1 := by decide +kernel
theorem tyX3_ok : ∀ k, k < 1 → parseFieldDescriptor (TX3 k).2.2.1 = some (tyX3 k) := by decide +kernel
abbrev cX3_init : ByteArray := prog_5_method_1_code
def yX3_init : MethodName := ⟨RX3, "<init>", "()V"⟩
abbrev cX3_hookAt : ByteArray := prog_5_method_2_code
def yX3_hookAt : MethodName := ⟨RX3, "hookAt", "(II)LHerbLoft$Hook;"⟩
abbrev cX3_copyAllOf : ByteArray := prog_5_method_3_code
def yX3_copyAllOf : MethodName := ⟨RX3, "copyAllOf", "(LHerbLoft$Rack;)V"⟩
abbrev cX3_turnAllOn : ByteArray := prog_5_method_4_code
def yX3_turnAllOn : MethodName := ⟨RX3, "turnAllOn", "(I)I"⟩
abbrev cX3_letDaysGo : ByteArray := prog_5_method_5_code
def yX3_letDaysGo : MethodName := ⟨RX3, "letDaysGo", "(III)V"⟩
abbrev cX3_giveTo : ByteArray := prog_5_method_6_code
def yX3_giveTo : MethodName := ⟨RX3, "giveTo", "(LHerbLoft$Order;)I"⟩
abbrev cX3_bundles : ByteArray := prog_5_method_7_code
def yX3_bundles : MethodName := ⟨RX3, "bundles", "()I"⟩
abbrev cX3_mouldyBundles : ByteArray := prog_5_method_8_code
def yX3_mouldyBundles : MethodName := ⟨RX3, "mouldyBundles", "()I"⟩
abbrev cX3_sumOfWetness : ByteArray := prog_5_method_9_code
def yX3_sumOfWetness : MethodName := ⟨RX3, "sumOfWetness", "()I"⟩
abbrev cX3_bundlesOf : ByteArray := prog_5_method_10_code
def yX3_bundlesOf : MethodName := ⟨RX3, "bundlesOf", "(LHerbLoft$Herb;)I"⟩
abbrev cX3_mouldyBundlesOf : ByteArray := prog_5_method_11_code
def yX3_mouldyBundlesOf : MethodName := ⟨RX3, "mouldyBundlesOf", "(LHerbLoft$Herb;)I"⟩
abbrev cX3_leastCleanWetnessOf : ByteArray := prog_5_method_12_code
def yX3_leastCleanWetnessOf : MethodName := ⟨RX3, "leastCleanWetnessOf", "(LHerbLoft$Herb;)I"⟩
abbrev cX3_bundlesThatFit : ByteArray := prog_5_method_13_code
def yX3_bundlesThatFit : MethodName := ⟨RX3, "bundlesThatFit", "(LHerbLoft$Order;)I"⟩
def RX4 : String := "HerbLoft"
def TX4 : u_T := fun k => match k with
  | 0 => ("HerbLoft", "herbs", "Ljava/util/ArrayList;", true)
  | 1 => ("HerbLoft", "orders", "Ljava/util/ArrayList;", true)
  | 2 => ("HerbLoft", "rack", "LHerbLoft$Rack;", true)
  | 3 => ("HerbLoft", "trial", "LHerbLoft$Rack;", true)
  | 4 => ("HerbLoft", "window", "I", false)
  | _ => ("HerbLoft", "day", "I", false)
def tyX4 : Nat → FieldType := fun k => match k with
  | 0 => .object "java/util/ArrayList"
  | 1 => .object "java/util/ArrayList"
  | 2 => .object "HerbLoft$Rack"
  | 3 => .object "HerbLoft$Rack"
  | 4 => .int
  | _ => .int
abbrev wsX40 : List Cond := u_ws RX4 TX4 6
theorem nmX4 : ∀ a, a < 6 → ∀ b, b < 6 → a ≠ b → (TX4 a).2.1 ≠ (TX4 b).2.1 := by decide +kernel
theorem tyX4_ok : ∀ k, k < 6 → parseFieldDescriptor (TX4 k).2.2.1 = some (tyX4 k) := by decide +kernel
abbrev cX4_init : ByteArray := prog_1_method_1_code
def yX4_init : MethodName := ⟨RX4, "<init>", "()V"⟩
abbrev cX4_herb : ByteArray := prog_1_method_2_code
def yX4_herb : MethodName := ⟨RX4, "herb", "(II)I"⟩
abbrev cX4_hang : ByteArray := prog_1_method_3_code
def yX4_hang : MethodName := ⟨RX4, "hang", "(IIII)I"⟩
abbrev cX4_take : ByteArray := prog_1_method_4_code
def yX4_take : MethodName := ⟨RX4, "take", "(II)I"⟩
abbrev cX4_move : ByteArray := prog_1_method_5_code
def yX4_move : MethodName := ⟨RX4, "move", "(IIII)I"⟩
abbrev cX4_turn : ByteArray := prog_1_method_6_code
def yX4_turn : MethodName := ⟨RX4, "turn", "(I)I"⟩
abbrev cX4_setWindow : ByteArray := prog_1_method_7_code
def yX4_setWindow : MethodName := ⟨RX4, "setWindow", "(I)I"⟩
abbrev cX4_order : ByteArray := prog_1_method_8_code
def yX4_order : MethodName := ⟨RX4, "order", "(III)I"⟩
abbrev cX4_fill : ByteArray := prog_1_method_9_code
def yX4_fill : MethodName := ⟨RX4, "fill", "()I"⟩
abbrev cX4_pass : ByteArray := prog_1_method_10_code
def yX4_pass : MethodName := ⟨RX4, "pass", "(II)I"⟩
abbrev cX4_told : ByteArray := prog_1_method_11_code
def yX4_told : MethodName := ⟨RX4, "told", "(III)I"⟩
abbrev cX4_about : ByteArray := prog_1_method_12_code
def yX4_about : MethodName := ⟨RX4, "about", "(II)I"⟩
abbrev cX4_asked : ByteArray := prog_1_method_13_code
def yX4_asked : MethodName := ⟨RX4, "asked", "(II)I"⟩
abbrev cX4_count : ByteArray := prog_1_method_14_code
def yX4_count : MethodName := ⟨RX4, "count", "(I)I"⟩
abbrev cX4_until : ByteArray := prog_1_method_15_code
def yX4_until : MethodName := ⟨RX4, "until", "(IIII)I"⟩
abbrev cX4_foresee : ByteArray := prog_1_method_16_code
def yX4_foresee : MethodName := ⟨RX4, "foresee", "(III)I"⟩
abbrev cX4_advise : ByteArray := prog_1_method_17_code
def yX4_advise : MethodName := ⟨RX4, "advise", "(II)I"⟩
abbrev cX4_mean : ByteArray := prog_1_method_18_code
def yX4_mean : MethodName := ⟨RX4, "mean", "()D"⟩
abbrev cX4_digest : ByteArray := prog_1_method_19_code
def yX4_digest : MethodName := ⟨RX4, "digest", "()J"⟩
abbrev cX4_isWithin : ByteArray := prog_1_method_20_code
def yX4_isWithin : MethodName := ⟨RX4, "isWithin", "(III)Z"⟩
abbrev cX4_herbNumbered : ByteArray := prog_1_method_21_code
def yX4_herbNumbered : MethodName := ⟨RX4, "herbNumbered", "(I)LHerbLoft$Herb;"⟩
abbrev cX4_ordersThatGotAll : ByteArray := prog_1_method_22_code
def yX4_ordersThatGotAll : MethodName := ⟨RX4, "ordersThatGotAll", "()I"⟩
abbrev cX4_bundlesGiven : ByteArray := prog_1_method_23_code
def yX4_bundlesGiven : MethodName := ⟨RX4, "bundlesGiven", "()I"⟩
abbrev cX4_scoreOfTrialBehind : ByteArray := prog_1_method_24_code
def yX4_scoreOfTrialBehind : MethodName := ⟨RX4, "scoreOfTrialBehind", "(II)I"⟩
def RX5 : String := "HerbLoftModel$State"
def TX5 : u_T := fun k => match k with
  | 0 => ("HerbLoftModel$State", "day", "I", false)
  | 1 => ("HerbLoftModel$State", "herb", "[I", true)
  | 2 => ("HerbLoftModel$State", "front", "[I", true)
  | 3 => ("HerbLoftModel$State", "back", "[I", true)
  | 4 => ("HerbLoftModel$State", "wetDays", "[I", true)
  | _ => ("HerbLoftModel$State", "mould", "[I", true)
def tyX5 : Nat → FieldType := fun k => match k with
  | 0 => .int
  | 1 => .array .int
  | 2 => .array .int
  | 3 => .array .int
  | 4 => .array .int
  | _ => .array .int
abbrev wsX50 : List Cond := u_ws RX5 TX5 6
theorem nmX5 : ∀ a, a < 6 → ∀ b, b < 6 → a ≠ b → (TX5 a).2.1 ≠ (TX5 b).2.1 := by decide +kernel
theorem tyX5_ok : ∀ k, k < 6 → parseFieldDescriptor (TX5 k).2.2.1 = some (tyX5 k) := by decide +kernel
abbrev cX5_init : ByteArray := prog_8_method_1_code
def yX5_init : MethodName := ⟨RX5, "<init>", "()V"⟩
abbrev cX5_copy : ByteArray := prog_8_method_2_code
def yX5_copy : MethodName := ⟨RX5, "copy", "([I[I)V"⟩
abbrev cX5_become : ByteArray := prog_8_method_3_code
def yX5_become : MethodName := ⟨RX5, "become", "(LHerbLoftModel$State;)V"⟩
abbrev cX5_hangs : ByteArray := prog_8_method_4_code
def yX5_hangs : MethodName := ⟨RX5, "hangs", "(I)Z"⟩
abbrev cX5_wetness : ByteArray := prog_8_method_5_code
def yX5_wetness : MethodName := ⟨RX5, "wetness", "(I)I"⟩
abbrev cX5_beside : ByteArray := prog_8_method_6_code
def yX5_beside : MethodName := ⟨RX5, "beside", "(II)I"⟩
abbrev cX5_neighbours : ByteArray := prog_8_method_7_code
def yX5_neighbours : MethodName := ⟨RX5, "neighbours", "(I)I"⟩
abbrev cX5_isWetter : ByteArray := prog_8_method_8_code
def yX5_isWetter : MethodName := ⟨RX5, "isWetter", "(II)I"⟩
abbrev cX5_wetter : ByteArray := prog_8_method_9_code
def yX5_wetter : MethodName := ⟨RX5, "wetter", "(I)I"⟩
abbrev cX5_isBad : ByteArray := prog_8_method_10_code
def yX5_isBad : MethodName := ⟨RX5, "isBad", "(I)Z"⟩
abbrev cX5_isBesideBad : ByteArray := prog_8_method_11_code
def yX5_isBesideBad : MethodName := ⟨RX5, "isBesideBad", "(I)Z"⟩
abbrev cX5_turn : ByteArray := prog_8_method_12_code
def yX5_turn : MethodName := ⟨RX5, "turn", "(I)V"⟩
abbrev cX5_lay : ByteArray := prog_8_method_13_code
def yX5_lay : MethodName := ⟨RX5, "lay", "(II)V"⟩
abbrev cX5_sum : ByteArray := prog_8_method_14_code
def yX5_sum : MethodName := ⟨RX5, "sum", "(I)I"⟩
def RX6 : String := "HerbLoftModel"
def TX6 : u_T := fun k => match k with
  | 0 => ("HerbLoftModel", "thrown", "I", false)
  | 1 => ("HerbLoftModel", "window", "I", false)
  | 2 => ("HerbLoftModel", "herbs", "I", false)
  | 3 => ("HerbLoftModel", "ease", "[I", true)
  | 4 => ("HerbLoftModel", "limit", "[I", true)
  | 5 => ("HerbLoftModel", "orders", "I", false)
  | 6 => ("HerbLoftModel", "wanted", "[I", true)
  | 7 => ("HerbLoftModel", "many", "[I", true)
  | 8 => ("HerbLoftModel", "driest", "[I", true)
  | 9 => ("HerbLoftModel", "got", "[I", true)
  | 10 => ("HerbLoftModel", "given", "I", false)
  | 11 => ("HerbLoftModel", "s", "LHerbLoftModel$State;", true)
  | 12 => ("HerbLoftModel", "ahead", "LHerbLoftModel$State;", true)
  | _ => ("HerbLoftModel", "old", "LHerbLoftModel$State;", true)
def tyX6 : Nat → FieldType := fun k => match k with
  | 0 => .int
  | 1 => .int
  | 2 => .int
  | 3 => .array .int
  | 4 => .array .int
  | 5 => .int
  | 6 => .array .int
  | 7 => .array .int
  | 8 => .array .int
  | 9 => .array .int
  | 10 => .int
  | 11 => .object "HerbLoftModel$State"
  | 12 => .object "HerbLoftModel$State"
  | _ => .object "HerbLoftModel$State"
abbrev wsX60 : List Cond := u_ws RX6 TX6 14
theorem nmX6 : ∀ a, a < 14 → ∀ b, b < 14 → a ≠ b → (TX6 a).2.1 ≠ (TX6 b).2.1 := by decide +kernel
theorem tyX6_ok : ∀ k, k < 14 → parseFieldDescriptor (TX6 k).2.2.1 = some (tyX6 k) := by decide +kernel
abbrev cX6_init : ByteArray := prog_7_method_1_code
def yX6_init : MethodName := ⟨RX6, "<init>", "()V"⟩
abbrev cX6_thrown : ByteArray := prog_7_method_2_code
def yX6_thrown : MethodName := ⟨RX6, "thrown", "()I"⟩
abbrev cX6_no : ByteArray := prog_7_method_3_code
def yX6_no : MethodName := ⟨RX6, "no", "(I)I"⟩
abbrev cX6_isIn : ByteArray := prog_7_method_4_code
def yX6_isIn : MethodName := ⟨RX6, "isIn", "(III)Z"⟩
abbrev cX6_isHook : ByteArray := prog_7_method_5_code
def yX6_isHook : MethodName := ⟨RX6, "isHook", "(II)Z"⟩
abbrev cX6_isHerb : ByteArray := prog_7_method_6_code
def yX6_isHerb : MethodName := ⟨RX6, "isHerb", "(I)Z"⟩
abbrev cX6_dayOn : ByteArray := prog_7_method_7_code
def yX6_dayOn : MethodName := ⟨RX6, "dayOn", "(LHerbLoftModel$State;I)V"⟩
abbrev cX6_daysOn : ByteArray := prog_7_method_8_code
def yX6_daysOn : MethodName := ⟨RX6, "daysOn", "(LHerbLoftModel$State;II)V"⟩
abbrev cX6_herb : ByteArray := prog_7_method_9_code
def yX6_herb : MethodName := ⟨RX6, "herb", "(II)I"⟩
abbrev cX6_hang : ByteArray := prog_7_method_10_code
def yX6_hang : MethodName := ⟨RX6, "hang", "(IIII)I"⟩
abbrev cX6_take : ByteArray := prog_7_method_11_code
def yX6_take : MethodName := ⟨RX6, "take", "(II)I"⟩
abbrev cX6_move : ByteArray := prog_7_method_12_code
def yX6_move : MethodName := ⟨RX6, "move", "(IIII)I"⟩
abbrev cX6_turn : ByteArray := prog_7_method_13_code
def yX6_turn : MethodName := ⟨RX6, "turn", "(I)I"⟩
abbrev cX6_setWindow : ByteArray := prog_7_method_14_code
def yX6_setWindow : MethodName := ⟨RX6, "setWindow", "(I)I"⟩
abbrev cX6_fits : ByteArray := prog_7_method_15_code
def yX6_fits : MethodName := ⟨RX6, "fits", "(II)Z"⟩
abbrev cX6_order : ByteArray := prog_7_method_16_code
def yX6_order : MethodName := ⟨RX6, "order", "(III)I"⟩
abbrev cX6_filled : ByteArray := prog_7_method_17_code
def yX6_filled : MethodName := ⟨RX6, "filled", "(I)I"⟩
abbrev cX6_fill : ByteArray := prog_7_method_18_code
def yX6_fill : MethodName := ⟨RX6, "fill", "()I"⟩
abbrev cX6_pass : ByteArray := prog_7_method_19_code
def yX6_pass : MethodName := ⟨RX6, "pass", "(II)I"⟩
abbrev cX6_bundleTold : ByteArray := prog_7_method_20_code
def yX6_bundleTold : MethodName := ⟨RX6, "bundleTold", "(II)I"⟩
abbrev cX6_told : ByteArray := prog_7_method_21_code
def yX6_told : MethodName := ⟨RX6, "told", "(III)I"⟩
abbrev cX6_herbTold : ByteArray := prog_7_method_22_code
def yX6_herbTold : MethodName := ⟨RX6, "herbTold", "(II)I"⟩
abbrev cX6_about : ByteArray := prog_7_method_23_code
def yX6_about : MethodName := ⟨RX6, "about", "(II)I"⟩
abbrev cX6_orderTold : ByteArray := prog_7_method_24_code
def yX6_orderTold : MethodName := ⟨RX6, "orderTold", "(II)I"⟩
abbrev cX6_asked : ByteArray := prog_7_method_25_code
def yX6_asked : MethodName := ⟨RX6, "asked", "(II)I"⟩
abbrev cX6_counted : ByteArray := prog_7_method_26_code
def yX6_counted : MethodName := ⟨RX6, "counted", "(I)I"⟩
abbrev cX6_count : ByteArray := prog_7_method_27_code
def yX6_count : MethodName := ⟨RX6, "count", "(I)I"⟩
abbrev cX6_untilDry : ByteArray := prog_7_method_28_code
def yX6_untilDry : MethodName := ⟨RX6, "untilDry", "(III)I"⟩
abbrev cX6_until : ByteArray := prog_7_method_29_code
def yX6_until : MethodName := ⟨RX6, "until", "(IIII)I"⟩
abbrev cX6_foresee : ByteArray := prog_7_method_30_code
def yX6_foresee : MethodName := ⟨RX6, "foresee", "(III)I"⟩
abbrev cX6_badBehind : ByteArray := prog_7_method_31_code
def yX6_badBehind : MethodName := ⟨RX6, "badBehind", "(III)I"⟩
abbrev cX6_bestString : ByteArray := prog_7_method_32_code
def yX6_bestString : MethodName := ⟨RX6, "bestString", "(II)I"⟩
abbrev cX6_advise : ByteArray := prog_7_method_33_code
def yX6_advise : MethodName := ⟨RX6, "advise", "(II)I"⟩
abbrev cX6_mean : ByteArray := prog_7_method_34_code
def yX6_mean : MethodName := ⟨RX6, "mean", "()D"⟩
abbrev cX6_digest : ByteArray := prog_7_method_35_code
def yX6_digest : MethodName := ⟨RX6, "digest", "()J"⟩
def RJx145de : String := "java/io/Serializable"
def TJx145de : u_T := fun k => match k with
  | _ => ("", "", "", false)
def tyJx145de : Nat → FieldType := fun k => match k with
  | _ => .int
abbrev wsJx145de0 : List Cond := u_ws RJx145de TJx145de 0
theorem nmJx145de : ∀ a, a < 0 → ∀ b, b < 0 → a ≠ b → (TJx145de a).2.1 ≠ (TJx145de b).2.1 := by decide +kernel
theorem tyJx145de_ok : ∀ k, k < 0 → parseFieldDescriptor (TJx145de k).2.2.1 = some (tyJx145de k) := by decide +kernel
def RJx8e188 : String := "java/lang/Cloneable"
def TJx8e188 : u_T := fun k => match k with
  | _ => ("", "", "", false)
def tyJx8e188 : Nat → FieldType := fun k => match k with
  | _ => .int
abbrev wsJx8e1880 : List Cond := u_ws RJx8e188 TJx8e188 0
theorem nmJx8e188 : ∀ a, a < 0 → ∀ b, b < 0 → a ≠ b → (TJx8e188 a).2.1 ≠ (TJx8e188 b).2.1 := by decide +kernel
theorem tyJx8e188_ok : ∀ k, k < 0 → parseFieldDescriptor (TJx8e188 k).2.2.1 = some (tyJx8e188 k) := by decide +kernel
def RJxab1ab : String := "java/lang/Iterable"
def TJxab1ab : u_T := fun k => match k with
  | _ => ("", "", "", false)
def tyJxab1ab : Nat → FieldType := fun k => match k with
  | _ => .int
abbrev wsJxab1ab0 : List Cond := u_ws RJxab1ab TJxab1ab 0
theorem nmJxab1ab : ∀ a, a < 0 → ∀ b, b < 0 → a ≠ b → (TJxab1ab a).2.1 ≠ (TJxab1ab b).2.1 := by decide +kernel
theorem tyJxab1ab_ok : ∀ k, k < 0 → parseFieldDescriptor (TJxab1ab k).2.2.1 = some (tyJxab1ab k) := by decide +kernel
def RJ9 : String := "java/lang/Math"
def TJ9 : u_T := fun k => match k with
  | _ => ("", "", "", false)
def tyJ9 : Nat → FieldType := fun k => match k with
  | _ => .int
abbrev wsJ90 : List Cond := u_ws RJ9 TJ9 0
theorem nmJ9 : ∀ a, a < 0 → ∀ b, b < 0 → a ≠ b → (TJ9 a).2.1 ≠ (TJ9 b).2.1 := by decide +kernel
theorem tyJ9_ok : ∀ k, k < 0 → parseFieldDescriptor (TJ9 k).2.2.1 = some (tyJ9 k) := by decide +kernel
abbrev cJ9_max_7cf53 : ByteArray := prog_16_method_65_code
def yJ9_max_7cf53 : MethodName := ⟨RJ9, "max", "(II)I"⟩
abbrev cJ9_min_7cf53 : ByteArray := prog_16_method_69_code
def yJ9_min_7cf53 : MethodName := ⟨RJ9, "min", "(II)I"⟩
def RJ0 : String := "java/lang/String"
def TJ0 : u_T := fun k => match k with
  | _ => ("", "", "", false)
def tyJ0 : Nat → FieldType := fun k => match k with
  | _ => .int
abbrev wsJ00 : List Cond := u_ws RJ0 TJ0 0
theorem nmJ0 : ∀ a, a < 0 → ∀ b, b < 0 → a ≠ b → (TJ0 a).2.1 ≠ (TJ0 b).2.1 := by decide +kernel
theorem tyJ0_ok : ∀ k, k < 0 → parseFieldDescriptor (TJ0 k).2.2.1 = some (tyJ0 k) := by decide +kernel
def RJ10 : String := "java/lang/System"
def TJ10 : u_T := fun k => match k with
  | _ => ("", "", "", false)
def tyJ10 : Nat → FieldType := fun k => match k with
  | _ => .int
abbrev wsJ100 : List Cond := u_ws RJ10 TJ10 0
theorem nmJ10 : ∀ a, a < 0 → ∀ b, b < 0 → a ≠ b → (TJ10 a).2.1 ≠ (TJ10 b).2.1 := by decide +kernel
theorem tyJ10_ok : ∀ k, k < 0 → parseFieldDescriptor (TJ10 k).2.2.1 = some (tyJ10 k) := by decide +kernel
def RJxa1e45 : String := "java/util/AbstractCollection"
def TJxa1e45 : u_T := fun k => match k with
  | _ => ("", "", "", false)
def tyJxa1e45 : Nat → FieldType := fun k => match k with
  | _ => .int
abbrev wsJxa1e450 : List Cond := u_ws RJxa1e45 TJxa1e45 0
theorem nmJxa1e45 : ∀ a, a < 0 → ∀ b, b < 0 → a ≠ b → (TJxa1e45 a).2.1 ≠ (TJxa1e45 b).2.1 := by decide +kernel
theorem tyJxa1e45_ok : ∀ k, k < 0 → parseFieldDescriptor (TJxa1e45 k).2.2.1 = some (tyJxa1e45 k) := by decide +kernel
abbrev cJxa1e45_init_da8c8 : ByteArray := prog_21_method_1_code
def yJxa1e45_init_da8c8 : MethodName := ⟨RJxa1e45, "<init>", "()V"⟩
def RJxc12de : String := "java/util/AbstractList"
def TJxc12de : u_T := fun k => match k with
  | _ => ("", "", "", false)
def tyJxc12de : Nat → FieldType := fun k => match k with
  | _ => .int
abbrev wsJxc12de0 : List Cond := u_ws RJxc12de TJxc12de 0
theorem nmJxc12de : ∀ a, a < 0 → ∀ b, b < 0 → a ≠ b → (TJxc12de a).2.1 ≠ (TJxc12de b).2.1 := by decide +kernel
theorem tyJxc12de_ok : ∀ k, k < 0 → parseFieldDescriptor (TJxc12de k).2.2.1 = some (tyJxc12de k) := by decide +kernel
abbrev cJxc12de_init_da8c8 : ByteArray := prog_22_method_1_code
def yJxc12de_init_da8c8 : MethodName := ⟨RJxc12de, "<init>", "()V"⟩
def RJx4a65c : String := "java/util/ArrayList"
def TJx4a65c : u_T := fun k => match k with
  | 0 => ("java/util/AbstractList", "modCount", "I", false)
  | 1 => ("java/util/ArrayList", "elementData", "[Ljava/lang/Object;", false)
  | _ => ("java/util/ArrayList", "size", "I", false)
def tyJx4a65c : Nat → FieldType := fun k => match k with
  | 0 => .int
  | 1 => .array (.object "java/lang/Object")
  | _ => .int
abbrev wsJx4a65c0 : List Cond := u_ws RJx4a65c TJx4a65c 3
theorem nmJx4a65c : ∀ a, a < 3 → ∀ b, b < 3 → a ≠ b → (TJx4a65c a).2.1 ≠ (TJx4a65c b).2.1 := by decide +kernel
theorem tyJx4a65c_ok : ∀ k, k < 3 → parseFieldDescriptor (TJx4a65c k).2.2.1 = some (tyJx4a65c k) := by decide +kernel
abbrev cJx4a65c_init_da8c8 : ByteArray := prog_23_method_2_code
def yJx4a65c_init_da8c8 : MethodName := ⟨RJx4a65c, "<init>", "()V"⟩
abbrev cJx4a65c_grow_92f84 : ByteArray := prog_23_method_6_code
def yJx4a65c_grow_92f84 : MethodName := ⟨RJx4a65c, "grow", "(I)[Ljava/lang/Object;"⟩
abbrev cJx4a65c_grow_d5877 : ByteArray := prog_23_method_7_code
def yJx4a65c_grow_d5877 : MethodName := ⟨RJx4a65c, "grow", "()[Ljava/lang/Object;"⟩
abbrev cJx4a65c_size_8abf5 : ByteArray := prog_23_method_8_code
def yJx4a65c_size_8abf5 : MethodName := ⟨RJx4a65c, "size", "()I"⟩
abbrev cJx4a65c_elementData_915e3 : ByteArray := prog_23_method_18_code
def yJx4a65c_elementData_915e3 : MethodName := ⟨RJx4a65c, "elementData", "(I)Ljava/lang/Object;"⟩
abbrev cJx4a65c_get_915e3 : ByteArray := prog_23_method_20_code
def yJx4a65c_get_915e3 : MethodName := ⟨RJx4a65c, "get", "(I)Ljava/lang/Object;"⟩
abbrev cJx4a65c_add_72be8 : ByteArray := prog_23_method_24_code
def yJx4a65c_add_72be8 : MethodName := ⟨RJx4a65c, "add", "(Ljava/lang/Object;[Ljava/lang/Object;I)V"⟩
abbrev cJx4a65c_add_9ea2d : ByteArray := prog_23_method_25_code
def yJx4a65c_add_9ea2d : MethodName := ⟨RJx4a65c, "add", "(Ljava/lang/Object;)Z"⟩
def RJ7 : String := "java/util/Arrays"
def TJ7 : u_T := fun k => match k with
  | _ => ("", "", "", false)
def tyJ7 : Nat → FieldType := fun k => match k with
  | _ => .int
abbrev wsJ70 : List Cond := u_ws RJ7 TJ7 0
theorem nmJ7 : ∀ a, a < 0 → ∀ b, b < 0 → a ≠ b → (TJ7 a).2.1 ≠ (TJ7 b).2.1 := by decide +kernel
theorem tyJ7_ok : ∀ k, k < 0 → parseFieldDescriptor (TJ7 k).2.2.1 = some (tyJ7 k) := by decide +kernel
abbrev cJ7_copyOf_1904c : ByteArray := prog_24_method_119_code
def yJ7_copyOf_1904c : MethodName := ⟨RJ7, "copyOf", "([Ljava/lang/Object;I)[Ljava/lang/Object;"⟩
abbrev cJ7_copyOf_6403c : ByteArray := prog_24_method_120_code
def yJ7_copyOf_6403c : MethodName := ⟨RJ7, "copyOf", "([Ljava/lang/Object;ILjava/lang/Class;)[Ljava/lang/Object;"⟩
def RJx5ef63 : String := "java/util/Collection"
def TJx5ef63 : u_T := fun k => match k with
  | _ => ("", "", "", false)
def tyJx5ef63 : Nat → FieldType := fun k => match k with
  | _ => .int
abbrev wsJx5ef630 : List Cond := u_ws RJx5ef63 TJx5ef63 0
theorem nmJx5ef63 : ∀ a, a < 0 → ∀ b, b < 0 → a ≠ b → (TJx5ef63 a).2.1 ≠ (TJx5ef63 b).2.1 := by decide +kernel
theorem tyJx5ef63_ok : ∀ k, k < 0 → parseFieldDescriptor (TJx5ef63 k).2.2.1 = some (tyJx5ef63 k) := by decide +kernel
def RJxbd725 : String := "java/util/List"
def TJxbd725 : u_T := fun k => match k with
  | _ => ("", "", "", false)
def tyJxbd725 : Nat → FieldType := fun k => match k with
  | _ => .int
abbrev wsJxbd7250 : List Cond := u_ws RJxbd725 TJxbd725 0
theorem nmJxbd725 : ∀ a, a < 0 → ∀ b, b < 0 → a ≠ b → (TJxbd725 a).2.1 ≠ (TJxbd725 b).2.1 := by decide +kernel
theorem tyJxbd725_ok : ∀ k, k < 0 → parseFieldDescriptor (TJxbd725 k).2.2.1 = some (tyJxbd725 k) := by decide +kernel
def RJ15 : String := "java/util/Objects"
def TJ15 : u_T := fun k => match k with
  | _ => ("", "", "", false)
def tyJ15 : Nat → FieldType := fun k => match k with
  | _ => .int
abbrev wsJ150 : List Cond := u_ws RJ15 TJ15 0
theorem nmJ15 : ∀ a, a < 0 → ∀ b, b < 0 → a ≠ b → (TJ15 a).2.1 ≠ (TJ15 b).2.1 := by decide +kernel
theorem tyJ15_ok : ∀ k, k < 0 → parseFieldDescriptor (TJ15 k).2.2.1 = some (tyJ15 k) := by decide +kernel
abbrev cJ15_checkIndex_7cf53 : ByteArray := prog_27_method_17_code
def yJ15_checkIndex_7cf53 : MethodName := ⟨RJ15, "checkIndex", "(II)I"⟩
def RJxf0a74 : String := "java/util/RandomAccess"
def TJxf0a74 : u_T := fun k => match k with
  | _ => ("", "", "", false)
def tyJxf0a74 : Nat → FieldType := fun k => match k with
  | _ => .int
abbrev wsJxf0a740 : List Cond := u_ws RJxf0a74 TJxf0a74 0
theorem nmJxf0a74 : ∀ a, a < 0 → ∀ b, b < 0 → a ≠ b → (TJxf0a74 a).2.1 ≠ (TJxf0a74 b).2.1 := by decide +kernel
theorem tyJxf0a74_ok : ∀ k, k < 0 → parseFieldDescriptor (TJxf0a74 k).2.2.1 = some (tyJxf0a74 k) := by decide +kernel
def RJxa66e6 : String := "java/util/SequencedCollection"
def TJxa66e6 : u_T := fun k => match k with
  | _ => ("", "", "", false)
def tyJxa66e6 : Nat → FieldType := fun k => match k with
  | _ => .int
abbrev wsJxa66e60 : List Cond := u_ws RJxa66e6 TJxa66e6 0
theorem nmJxa66e6 : ∀ a, a < 0 → ∀ b, b < 0 → a ≠ b → (TJxa66e6 a).2.1 ≠ (TJxa66e6 b).2.1 := by decide +kernel
theorem tyJxa66e6_ok : ∀ k, k < 0 → parseFieldDescriptor (TJxa66e6 k).2.2.1 = some (tyJxa66e6 k) := by decide +kernel
def RJ8 : String := "jdk/internal/util/ArraysSupport"
def TJ8 : u_T := fun k => match k with
  | _ => ("", "", "", false)
def tyJ8 : Nat → FieldType := fun k => match k with
  | _ => .int
abbrev wsJ80 : List Cond := u_ws RJ8 TJ8 0
theorem nmJ8 : ∀ a, a < 0 → ∀ b, b < 0 → a ≠ b → (TJ8 a).2.1 ≠ (TJ8 b).2.1 := by decide +kernel
theorem tyJ8_ok : ∀ k, k < 0 → parseFieldDescriptor (TJ8 k).2.2.1 = some (tyJ8 k) := by decide +kernel
abbrev cJ8_newLength_cabcc : ByteArray := prog_30_method_27_code
def yJ8_newLength_cabcc : MethodName := ⟨RJ8, "newLength", "(III)I"⟩
abbrev cJ8_hugeLength_7cf53 : ByteArray := prog_30_method_28_code
def yJ8_hugeLength_7cf53 : MethodName := ⟨RJ8, "hugeLength", "(II)I"⟩
def RJ3 : String := "jdk/internal/util/Preconditions"
def TJ3 : u_T := fun k => match k with
  | _ => ("", "", "", false)
def tyJ3 : Nat → FieldType := fun k => match k with
  | _ => .int
abbrev wsJ30 : List Cond := u_ws RJ3 TJ3 0
theorem nmJ3 : ∀ a, a < 0 → ∀ b, b < 0 → a ≠ b → (TJ3 a).2.1 ≠ (TJ3 b).2.1 := by decide +kernel
theorem tyJ3_ok : ∀ k, k < 0 → parseFieldDescriptor (TJ3 k).2.2.1 = some (tyJ3 k) := by decide +kernel
abbrev cJ3_checkIndex_8e157 : ByteArray := prog_31_method_11_code
def yJ3_checkIndex_8e157 : MethodName := ⟨RJ3, "checkIndex", "(IILjava/util/function/BiFunction;)I"⟩
def RL : String := "HerbLoftLaw"
abbrev cL_herb : ByteArray := method_3_code
def yL_herb : MethodName := ⟨RL, "herb", "(LHerbLoft;II[J)I"⟩
abbrev cL_hang : ByteArray := method_4_code
def yL_hang : MethodName := ⟨RL, "hang", "(LHerbLoft;IIII[J)I"⟩
abbrev cL_take : ByteArray := method_5_code
def yL_take : MethodName := ⟨RL, "take", "(LHerbLoft;II[J)I"⟩
abbrev cL_move : ByteArray := method_6_code
def yL_move : MethodName := ⟨RL, "move", "(LHerbLoft;IIII[J)I"⟩
abbrev cL_turn : ByteArray := method_7_code
def yL_turn : MethodName := ⟨RL, "turn", "(LHerbLoft;I[J)I"⟩
abbrev cL_setWindow : ByteArray := method_8_code
def yL_setWindow : MethodName := ⟨RL, "setWindow", "(LHerbLoft;I[J)I"⟩
abbrev cL_order : ByteArray := method_9_code
def yL_order : MethodName := ⟨RL, "order", "(LHerbLoft;III[J)I"⟩
abbrev cL_pass : ByteArray := method_10_code
def yL_pass : MethodName := ⟨RL, "pass", "(LHerbLoft;II[J)I"⟩
abbrev cL_told : ByteArray := method_11_code
def yL_told : MethodName := ⟨RL, "told", "(LHerbLoft;III[J)I"⟩
abbrev cL_about : ByteArray := method_12_code
def yL_about : MethodName := ⟨RL, "about", "(LHerbLoft;II[J)I"⟩
abbrev cL_asked : ByteArray := method_13_code
def yL_asked : MethodName := ⟨RL, "asked", "(LHerbLoft;II[J)I"⟩
abbrev cL_count : ByteArray := method_14_code
def yL_count : MethodName := ⟨RL, "count", "(LHerbLoft;I[J)I"⟩
abbrev cL_until : ByteArray := method_15_code
def yL_until : MethodName := ⟨RL, "until", "(LHerbLoft;IIII[J)I"⟩
abbrev cL_foresee : ByteArray := method_16_code
def yL_foresee : MethodName := ⟨RL, "foresee", "(LHerbLoft;III[J)I"⟩
abbrev cL_advise : ByteArray := method_17_code
def yL_advise : MethodName := ⟨RL, "advise", "(LHerbLoft;II[J)I"⟩
abbrev cL_law : ByteArray := code
def yL_law : MethodName := ⟨RL, "law", "([I)Z"⟩
abbrev vwCl : List vw_C := [(RJx4a65c, TJx4a65c, 3), (RX0, TX0, 3), (RX1, TX1, 10), (RX2, TX2, 4), (RX3, TX3, 1), (RX4, TX4, 6), (RX5, TX5, 6), (RX6, TX6, 14)]
end
section
theorem dX0_init_0 : decode cX0_init 0 = .ok (.aload_n 0, 1) := by decide +kernel
theorem dX0_init_1 : decode cX0_init 1 = .ok (.invokespecial 1, 3) := by decide +kernel
theorem dX0_init_4 : decode cX0_init 4 = .ok (.aload_n 0, 1) := by decide +kernel
theorem dX0_init_5 : decode cX0_init 5 = .ok (.iload_n 1, 1) := by decide +kernel
theorem dX0_init_6 : decode cX0_init 6 = .ok (.putfield 7, 3) := by decide +kernel
theorem dX0_init_9 : decode cX0_init 9 = .ok (.aload_n 0, 1) := by decide +kernel
theorem dX0_init_10 : decode cX0_init 10 = .ok (.iload_n 2, 1) := by decide +kernel
theorem dX0_init_11 : decode cX0_init 11 = .ok (.putfield 13, 3) := by decide +kernel
theorem dX0_init_14 : decode cX0_init 14 = .ok (.aload_n 0, 1) := by decide +kernel
theorem dX0_init_15 : decode cX0_init 15 = .ok (.iload_n 3, 1) := by decide +kernel
theorem dX0_init_16 : decode cX0_init 16 = .ok (.putfield 16, 3) := by decide +kernel
theorem dX0_init_19 : decode cX0_init 19 = .ok (.return_, 1) := by decide +kernel
theorem dX1_init_0 : decode cX1_init 0 = .ok (.aload_n 0, 1) := by decide +kernel
theorem dX1_init_1 : decode cX1_init 1 = .ok (.invokespecial 3, 3) := by decide +kernel
theorem dX1_init_4 : decode cX1_init 4 = .ok (.aload_n 0, 1) := by decide +kernel
theorem dX1_init_5 : decode cX1_init 5 = .ok (.iload_n 1, 1) := by decide +kernel
theorem dX1_init_6 : decode cX1_init 6 = .ok (.putfield 9, 3) := by decide +kernel
theorem dX1_init_9 : decode cX1_init 9 = .ok (.return_, 1) := by decide +kernel
theorem dX1_isTaken_0 : decode cX1_isTaken 0 = .ok (.aload_n 0, 1) := by decide +kernel
theorem dX1_isTaken_1 : decode cX1_isTaken 1 = .ok (.getfield 15, 3) := by decide +kernel
theorem dX1_isTaken_4 : decode cX1_isTaken 4 = .ok (.ifnull 7, 3) := by decide +kernel
theorem dX1_isTaken_7 : decode cX1_isTaken 7 = .ok (.iconst 1, 1) := by decide +kernel
theorem dX1_isTaken_8 : decode cX1_isTaken 8 = .ok (.goto 4, 3) := by decide +kernel
theorem dX1_isTaken_11 : decode cX1_isTaken 11 = .ok (.iconst 0, 1) := by decide +kernel
theorem dX1_isTaken_12 : decode cX1_isTaken 12 = .ok (.ireturn, 1) := by decide +kernel
theorem dX1_isTakenBy_0 : decode cX1_isTakenBy 0 = .ok (.aload_n 0, 1) := by decide +kernel
theorem dX1_isTakenBy_1 : decode cX1_isTakenBy 1 = .ok (.getfield 15, 3) := by decide +kernel
theorem dX1_isTakenBy_4 : decode cX1_isTakenBy 4 = .ok (.ifnull 15, 3) := by decide +kernel
theorem dX1_isTakenBy_7 : decode cX1_isTakenBy 7 = .ok (.aload_n 0, 1) := by decide +kernel
theorem dX1_isTakenBy_8 : decode cX1_isTakenBy 8 = .ok (.getfield 15, 3) := by decide +kernel
theorem dX1_isTakenBy_11 : decode cX1_isTakenBy 11 = .ok (.aload_n 1, 1) := by decide +kernel
theorem dX1_isTakenBy_12 : decode cX1_isTakenBy 12 = .ok (.if_acmp .ne 7, 3) := by decide +kernel
theorem dX1_isTakenBy_15 : decode cX1_isTakenBy 15 = .ok (.iconst 1, 1) := by decide +kernel
theorem dX1_isTakenBy_16 : decode cX1_isTakenBy 16 = .ok (.goto 4, 3) := by decide +kernel
theorem dX1_isTakenBy_19 : decode cX1_isTakenBy 19 = .ok (.iconst 0, 1) := by decide +kernel
theorem dX1_isTakenBy_20 : decode cX1_isTakenBy 20 = .ok (.ireturn, 1) := by decide +kernel
theorem dX1_isMouldy_0 : decode cX1_isMouldy 0 = .ok (.aload_n 0, 1) := by decide +kernel
theorem dX1_isMouldy_1 : decode cX1_isMouldy 1 = .ok (.getfield 15, 3) := by decide +kernel
theorem dX1_isMouldy_4 : decode cX1_isMouldy 4 = .ok (.ifnull 14, 3) := by decide +kernel
theorem dX1_isMouldy_7 : decode cX1_isMouldy 7 = .ok (.aload_n 0, 1) := by decide +kernel
theorem dX1_isMouldy_8 : decode cX1_isMouldy 8 = .ok (.getfield 19, 3) := by decide +kernel
theorem dX1_isMouldy_11 : decode cX1_isMouldy 11 = .ok (.ifCond .le 7, 3) := by decide +kernel
theorem dX1_isMouldy_14 : decode cX1_isMouldy 14 = .ok (.iconst 1, 1) := by decide +kernel
theorem dX1_isMouldy_15 : decode cX1_isMouldy 15 = .ok (.goto 4, 3) := by decide +kernel
theorem dX1_isMouldy_18 : decode cX1_isMouldy 18 = .ok (.iconst 0, 1) := by decide +kernel
theorem dX1_isMouldy_19 : decode cX1_isMouldy 19 = .ok (.ireturn, 1) := by decide +kernel
theorem dX1_wetness_0 : decode cX1_wetness 0 = .ok (.aload_n 0, 1) := by decide +kernel
theorem dX1_wetness_1 : decode cX1_wetness 1 = .ok (.getfield 22, 3) := by decide +kernel
theorem dX1_wetness_4 : decode cX1_wetness 4 = .ok (.aload_n 0, 1) := by decide +kernel
theorem dX1_wetness_5 : decode cX1_wetness 5 = .ok (.getfield 25, 3) := by decide +kernel
theorem dX1_wetness_8 : decode cX1_wetness 8 = .ok (.iadd, 1) := by decide +kernel
theorem dX1_wetness_9 : decode cX1_wetness 9 = .ok (.iconst 2, 1) := by decide +kernel
theorem dX1_wetness_10 : decode cX1_wetness 10 = .ok (.idiv, 1) := by decide +kernel
theorem dX1_wetness_11 : decode cX1_wetness 11 = .ok (.ireturn, 1) := by decide +kernel
theorem dX1_fits_0 : decode cX1_fits 0 = .ok (.aload_n 0, 1) := by decide +kernel
theorem dX1_fits_1 : decode cX1_fits 1 = .ok (.aload_n 1, 1) := by decide +kernel
theorem dX1_fits_2 : decode cX1_fits 2 = .ok (.getfield 28, 3) := by decide +kernel
theorem dX1_fits_5 : decode cX1_fits 5 = .ok (.invokevirtual 31, 3) := by decide +kernel
theorem dX1_fits_8 : decode cX1_fits 8 = .ok (.ifCond .eq 25, 3) := by decide +kernel
theorem dX1_fits_11 : decode cX1_fits 11 = .ok (.aload_n 0, 1) := by decide +kernel
theorem dX1_fits_12 : decode cX1_fits 12 = .ok (.invokevirtual 35, 3) := by decide +kernel
theorem dX1_fits_15 : decode cX1_fits 15 = .ok (.aload_n 1, 1) := by decide +kernel
theorem dX1_fits_16 : decode cX1_fits 16 = .ok (.getfield 39, 3) := by decide +kernel
theorem dX1_fits_19 : decode cX1_fits 19 = .ok (.if_icmp .gt 14, 3) := by decide +kernel
theorem dX1_fits_22 : decode cX1_fits 22 = .ok (.aload_n 0, 1) := by decide +kernel
theorem dX1_fits_23 : decode cX1_fits 23 = .ok (.getfield 19, 3) := by decide +kernel
theorem dX1_fits_26 : decode cX1_fits 26 = .ok (.ifCond .ne 7, 3) := by decide +kernel
theorem dX1_fits_29 : decode cX1_fits 29 = .ok (.iconst 1, 1) := by decide +kernel
theorem dX1_fits_30 : decode cX1_fits 30 = .ok (.goto 4, 3) := by decide +kernel
theorem dX1_fits_33 : decode cX1_fits 33 = .ok (.iconst 0, 1) := by decide +kernel
theorem dX1_fits_34 : decode cX1_fits 34 = .ok (.ireturn, 1) := by decide +kernel
theorem dX1_receiveNew_0 : decode cX1_receiveNew 0 = .ok (.aload_n 0, 1) := by decide +kernel
theorem dX1_receiveNew_1 : decode cX1_receiveNew 1 = .ok (.aload_n 1, 1) := by decide +kernel
theorem dX1_receiveNew_2 : decode cX1_receiveNew 2 = .ok (.putfield 15, 3) := by decide +kernel
theorem dX1_receiveNew_5 : decode cX1_receiveNew 5 = .ok (.aload_n 0, 1) := by decide +kernel
theorem dX1_receiveNew_6 : decode cX1_receiveNew 6 = .ok (.iload_n 2, 1) := by decide +kernel
theorem dX1_receiveNew_7 : decode cX1_receiveNew 7 = .ok (.putfield 22, 3) := by decide +kernel
theorem dX1_receiveNew_10 : decode cX1_receiveNew 10 = .ok (.aload_n 0, 1) := by decide +kernel
theorem dX1_receiveNew_11 : decode cX1_receiveNew 11 = .ok (.iload_n 2, 1) := by decide +kernel
theorem dX1_receiveNew_12 : decode cX1_receiveNew 12 = .ok (.putfield 25, 3) := by decide +kernel
theorem dX1_receiveNew_15 : decode cX1_receiveNew 15 = .ok (.aload_n 0, 1) := by decide +kernel
theorem dX1_receiveNew_16 : decode cX1_receiveNew 16 = .ok (.iconst 0, 1) := by decide +kernel
theorem dX1_receiveNew_17 : decode cX1_receiveNew 17 = .ok (.putfield 42, 3) := by decide +kernel
theorem dX1_receiveNew_20 : decode cX1_receiveNew 20 = .ok (.aload_n 0, 1) := by decide +kernel
theorem dX1_receiveNew_21 : decode cX1_receiveNew 21 = .ok (.iconst 0, 1) := by decide +kernel
theorem dX1_receiveNew_22 : decode cX1_receiveNew 22 = .ok (.putfield 19, 3) := by decide +kernel
theorem dX1_receiveNew_25 : decode cX1_receiveNew 25 = .ok (.return_, 1) := by decide +kernel
theorem dX1_clear_0 : decode cX1_clear 0 = .ok (.aload_n 0, 1) := by decide +kernel
theorem dX1_clear_1 : decode cX1_clear 1 = .ok (.aconst_null, 1) := by decide +kernel
theorem dX1_clear_2 : decode cX1_clear 2 = .ok (.iconst 0, 1) := by decide +kernel
theorem dX1_clear_3 : decode cX1_clear 3 = .ok (.invokevirtual 45, 3) := by decide +kernel
theorem dX1_clear_6 : decode cX1_clear 6 = .ok (.return_, 1) := by decide +kernel
theorem dX1_copyBundleOf_0 : decode cX1_copyBundleOf 0 = .ok (.aload_n 0, 1) := by decide +kernel
theorem dX1_copyBundleOf_1 : decode cX1_copyBundleOf 1 = .ok (.aload_n 1, 1) := by decide +kernel
theorem dX1_copyBundleOf_2 : decode cX1_copyBundleOf 2 = .ok (.getfield 15, 3) := by decide +kernel
theorem dX1_copyBundleOf_5 : decode cX1_copyBundleOf 5 = .ok (.putfield 15, 3) := by decide +kernel
theorem dX1_copyBundleOf_8 : decode cX1_copyBundleOf 8 = .ok (.aload_n 0, 1) := by decide +kernel
theorem dX1_copyBundleOf_9 : decode cX1_copyBundleOf 9 = .ok (.aload_n 1, 1) := by decide +kernel
theorem dX1_copyBundleOf_10 : decode cX1_copyBundleOf 10 = .ok (.getfield 22, 3) := by decide +kernel
theorem dX1_copyBundleOf_13 : decode cX1_copyBundleOf 13 = .ok (.putfield 22, 3) := by decide +kernel
theorem dX1_copyBundleOf_16 : decode cX1_copyBundleOf 16 = .ok (.aload_n 0, 1) := by decide +kernel
theorem dX1_copyBundleOf_17 : decode cX1_copyBundleOf 17 = .ok (.aload_n 1, 1) := by decide +kernel
theorem dX1_copyBundleOf_18 : decode cX1_copyBundleOf 18 = .ok (.getfield 25, 3) := by decide +kernel
theorem dX1_copyBundleOf_21 : decode cX1_copyBundleOf 21 = .ok (.putfield 25, 3) := by decide +kernel
theorem dX1_copyBundleOf_24 : decode cX1_copyBundleOf 24 = .ok (.aload_n 0, 1) := by decide +kernel
theorem dX1_copyBundleOf_25 : decode cX1_copyBundleOf 25 = .ok (.aload_n 1, 1) := by decide +kernel
theorem dX1_copyBundleOf_26 : decode cX1_copyBundleOf 26 = .ok (.getfield 42, 3) := by decide +kernel
theorem dX1_copyBundleOf_29 : decode cX1_copyBundleOf 29 = .ok (.putfield 42, 3) := by decide +kernel
theorem dX1_copyBundleOf_32 : decode cX1_copyBundleOf 32 = .ok (.aload_n 0, 1) := by decide +kernel
theorem dX1_copyBundleOf_33 : decode cX1_copyBundleOf 33 = .ok (.aload_n 1, 1) := by decide +kernel
theorem dX1_copyBundleOf_34 : decode cX1_copyBundleOf 34 = .ok (.getfield 19, 3) := by decide +kernel
theorem dX1_copyBundleOf_37 : decode cX1_copyBundleOf 37 = .ok (.putfield 19, 3) := by decide +kernel
theorem dX1_copyBundleOf_40 : decode cX1_copyBundleOf 40 = .ok (.return_, 1) := by decide +kernel
theorem dX1_exchangeSides_0 : decode cX1_exchangeSides 0 = .ok (.aload_n 0, 1) := by decide +kernel
theorem dX1_exchangeSides_1 : decode cX1_exchangeSides 1 = .ok (.getfield 22, 3) := by decide +kernel
theorem dX1_exchangeSides_4 : decode cX1_exchangeSides 4 = .ok (.istore_n 1, 1) := by decide +kernel
theorem dX1_exchangeSides_5 : decode cX1_exchangeSides 5 = .ok (.aload_n 0, 1) := by decide +kernel
theorem dX1_exchangeSides_6 : decode cX1_exchangeSides 6 = .ok (.aload_n 0, 1) := by decide +kernel
theorem dX1_exchangeSides_7 : decode cX1_exchangeSides 7 = .ok (.getfield 25, 3) := by decide +kernel
theorem dX1_exchangeSides_10 : decode cX1_exchangeSides 10 = .ok (.putfield 22, 3) := by decide +kernel
theorem dX1_exchangeSides_13 : decode cX1_exchangeSides 13 = .ok (.aload_n 0, 1) := by decide +kernel
theorem dX1_exchangeSides_14 : decode cX1_exchangeSides 14 = .ok (.iload_n 1, 1) := by decide +kernel
theorem dX1_exchangeSides_15 : decode cX1_exchangeSides 15 = .ok (.putfield 25, 3) := by decide +kernel
theorem dX1_exchangeSides_18 : decode cX1_exchangeSides 18 = .ok (.return_, 1) := by decide +kernel
theorem dX1_neighbours_0 : decode cX1_neighbours 0 = .ok (.iconst 0, 1) := by decide +kernel
theorem dX1_neighbours_1 : decode cX1_neighbours 1 = .ok (.istore_n 1, 1) := by decide +kernel
theorem dX1_neighbours_2 : decode cX1_neighbours 2 = .ok (.aload_n 0, 1) := by decide +kernel
theorem dX1_neighbours_3 : decode cX1_neighbours 3 = .ok (.getfield 49, 3) := by decide +kernel
theorem dX1_neighbours_6 : decode cX1_neighbours 6 = .ok (.ifnull 16, 3) := by decide +kernel
theorem dX1_neighbours_9 : decode cX1_neighbours 9 = .ok (.aload_n 0, 1) := by decide +kernel
theorem dX1_neighbours_10 : decode cX1_neighbours 10 = .ok (.getfield 49, 3) := by decide +kernel
theorem dX1_neighbours_13 : decode cX1_neighbours 13 = .ok (.invokevirtual 53, 3) := by decide +kernel
theorem dX1_neighbours_16 : decode cX1_neighbours 16 = .ok (.ifCond .eq 6, 3) := by decide +kernel
theorem dX1_neighbours_19 : decode cX1_neighbours 19 = .ok (.iinc 1 1, 3) := by decide +kernel
theorem dX1_neighbours_22 : decode cX1_neighbours 22 = .ok (.aload_n 0, 1) := by decide +kernel
theorem dX1_neighbours_23 : decode cX1_neighbours 23 = .ok (.getfield 57, 3) := by decide +kernel
theorem dX1_neighbours_26 : decode cX1_neighbours 26 = .ok (.ifnull 16, 3) := by decide +kernel
theorem dX1_neighbours_29 : decode cX1_neighbours 29 = .ok (.aload_n 0, 1) := by decide +kernel
theorem dX1_neighbours_30 : decode cX1_neighbours 30 = .ok (.getfield 57, 3) := by decide +kernel
theorem dX1_neighbours_33 : decode cX1_neighbours 33 = .ok (.invokevirtual 53, 3) := by decide +kernel
theorem dX1_neighbours_36 : decode cX1_neighbours 36 = .ok (.ifCond .eq 6, 3) := by decide +kernel
theorem dX1_neighbours_39 : decode cX1_neighbours 39 = .ok (.iinc 1 1, 3) := by decide +kernel
theorem dX1_neighbours_42 : decode cX1_neighbours 42 = .ok (.iload_n 1, 1) := by decide +kernel
theorem dX1_neighbours_43 : decode cX1_neighbours 43 = .ok (.ireturn, 1) := by decide +kernel
theorem dX1_wetterNeighbours_0 : decode cX1_wetterNeighbours 0 = .ok (.iconst 0, 1) := by decide +kernel
theorem dX1_wetterNeighbours_1 : decode cX1_wetterNeighbours 1 = .ok (.istore_n 1, 1) := by decide +kernel
theorem dX1_wetterNeighbours_2 : decode cX1_wetterNeighbours 2 = .ok (.aload_n 0, 1) := by decide +kernel
theorem dX1_wetterNeighbours_3 : decode cX1_wetterNeighbours 3 = .ok (.getfield 49, 3) := by decide +kernel
theorem dX1_wetterNeighbours_6 : decode cX1_wetterNeighbours 6 = .ok (.ifnull 17, 3) := by decide +kernel
theorem dX1_wetterNeighbours_9 : decode cX1_wetterNeighbours 9 = .ok (.aload_n 0, 1) := by decide +kernel
theorem dX1_wetterNeighbours_10 : decode cX1_wetterNeighbours 10 = .ok (.getfield 49, 3) := by decide +kernel
theorem dX1_wetterNeighbours_13 : decode cX1_wetterNeighbours 13 = .ok (.aload_n 0, 1) := by decide +kernel
theorem dX1_wetterNeighbours_14 : decode cX1_wetterNeighbours 14 = .ok (.invokevirtual 60, 3) := by decide +kernel
theorem dX1_wetterNeighbours_17 : decode cX1_wetterNeighbours 17 = .ok (.ifCond .eq 6, 3) := by decide +kernel
theorem dX1_wetterNeighbours_20 : decode cX1_wetterNeighbours 20 = .ok (.iinc 1 1, 3) := by decide +kernel
theorem dX1_wetterNeighbours_23 : decode cX1_wetterNeighbours 23 = .ok (.aload_n 0, 1) := by decide +kernel
theorem dX1_wetterNeighbours_24 : decode cX1_wetterNeighbours 24 = .ok (.getfield 57, 3) := by decide +kernel
theorem dX1_wetterNeighbours_27 : decode cX1_wetterNeighbours 27 = .ok (.ifnull 17, 3) := by decide +kernel
theorem dX1_wetterNeighbours_30 : decode cX1_wetterNeighbours 30 = .ok (.aload_n 0, 1) := by decide +kernel
theorem dX1_wetterNeighbours_31 : decode cX1_wetterNeighbours 31 = .ok (.getfield 57, 3) := by decide +kernel
theorem dX1_wetterNeighbours_34 : decode cX1_wetterNeighbours 34 = .ok (.aload_n 0, 1) := by decide +kernel
theorem dX1_wetterNeighbours_35 : decode cX1_wetterNeighbours 35 = .ok (.invokevirtual 60, 3) := by decide +kernel
theorem dX1_wetterNeighbours_38 : decode cX1_wetterNeighbours 38 = .ok (.ifCond .eq 6, 3) := by decide +kernel
theorem dX1_wetterNeighbours_41 : decode cX1_wetterNeighbours 41 = .ok (.iinc 1 1, 3) := by decide +kernel
theorem dX1_wetterNeighbours_44 : decode cX1_wetterNeighbours 44 = .ok (.iload_n 1, 1) := by decide +kernel
theorem dX1_wetterNeighbours_45 : decode cX1_wetterNeighbours 45 = .ok (.ireturn, 1) := by decide +kernel
theorem dX1_isWetterThan_0 : decode cX1_isWetterThan 0 = .ok (.aload_n 0, 1) := by decide +kernel
theorem dX1_isWetterThan_1 : decode cX1_isWetterThan 1 = .ok (.invokevirtual 53, 3) := by decide +kernel
theorem dX1_isWetterThan_4 : decode cX1_isWetterThan 4 = .ok (.ifCond .eq 18, 3) := by decide +kernel
theorem dX1_isWetterThan_7 : decode cX1_isWetterThan 7 = .ok (.aload_n 0, 1) := by decide +kernel
theorem dX1_isWetterThan_8 : decode cX1_isWetterThan 8 = .ok (.invokevirtual 35, 3) := by decide +kernel
theorem dX1_isWetterThan_11 : decode cX1_isWetterThan 11 = .ok (.aload_n 1, 1) := by decide +kernel
theorem dX1_isWetterThan_12 : decode cX1_isWetterThan 12 = .ok (.invokevirtual 35, 3) := by decide +kernel
theorem dX1_isWetterThan_15 : decode cX1_isWetterThan 15 = .ok (.if_icmp .le 7, 3) := by decide +kernel
theorem dX1_isWetterThan_18 : decode cX1_isWetterThan 18 = .ok (.iconst 1, 1) := by decide +kernel
theorem dX1_isWetterThan_19 : decode cX1_isWetterThan 19 = .ok (.goto 4, 3) := by decide +kernel
theorem dX1_isWetterThan_22 : decode cX1_isWetterThan 22 = .ok (.iconst 0, 1) := by decide +kernel
theorem dX1_isWetterThan_23 : decode cX1_isWetterThan 23 = .ok (.ireturn, 1) := by decide +kernel
theorem dX1_spreadsMould_0 : decode cX1_spreadsMould 0 = .ok (.aload_n 0, 1) := by decide +kernel
theorem dX1_spreadsMould_1 : decode cX1_spreadsMould 1 = .ok (.invokevirtual 53, 3) := by decide +kernel
theorem dX1_spreadsMould_4 : decode cX1_spreadsMould 4 = .ok (.ifCond .eq 15, 3) := by decide +kernel
theorem dX1_spreadsMould_7 : decode cX1_spreadsMould 7 = .ok (.aload_n 0, 1) := by decide +kernel
theorem dX1_spreadsMould_8 : decode cX1_spreadsMould 8 = .ok (.getfield 19, 3) := by decide +kernel
theorem dX1_spreadsMould_11 : decode cX1_spreadsMould 11 = .ok (.iconst 3, 1) := by decide +kernel
theorem dX1_spreadsMould_12 : decode cX1_spreadsMould 12 = .ok (.if_icmp .lt 7, 3) := by decide +kernel
theorem dX1_spreadsMould_15 : decode cX1_spreadsMould 15 = .ok (.iconst 1, 1) := by decide +kernel
theorem dX1_spreadsMould_16 : decode cX1_spreadsMould 16 = .ok (.goto 4, 3) := by decide +kernel
theorem dX1_spreadsMould_19 : decode cX1_spreadsMould 19 = .ok (.iconst 0, 1) := by decide +kernel
theorem dX1_spreadsMould_20 : decode cX1_spreadsMould 20 = .ok (.ireturn, 1) := by decide +kernel
theorem dX1_beginDay_0 : decode cX1_beginDay 0 = .ok (.aload_n 0, 1) := by decide +kernel
theorem dX1_beginDay_1 : decode cX1_beginDay 1 = .ok (.getfield 15, 3) := by decide +kernel
theorem dX1_beginDay_4 : decode cX1_beginDay 4 = .ok (.ifnonnull 4, 3) := by decide +kernel
theorem dX1_beginDay_7 : decode cX1_beginDay 7 = .ok (.return_, 1) := by decide +kernel
theorem dX1_beginDay_8 : decode cX1_beginDay 8 = .ok (.aload_n 0, 1) := by decide +kernel
theorem dX1_beginDay_9 : decode cX1_beginDay 9 = .ok (.iconst 0, 1) := by decide +kernel
theorem dX1_beginDay_10 : decode cX1_beginDay 10 = .ok (.aload_n 0, 1) := by decide +kernel
theorem dX1_beginDay_11 : decode cX1_beginDay 11 = .ok (.getfield 15, 3) := by decide +kernel
theorem dX1_beginDay_14 : decode cX1_beginDay 14 = .ok (.getfield 64, 3) := by decide +kernel
theorem dX1_beginDay_17 : decode cX1_beginDay 17 = .ok (.aload_n 0, 1) := by decide +kernel
theorem dX1_beginDay_18 : decode cX1_beginDay 18 = .ok (.getfield 9, 3) := by decide +kernel
theorem dX1_beginDay_21 : decode cX1_beginDay 21 = .ok (.iadd, 1) := by decide +kernel
theorem dX1_beginDay_22 : decode cX1_beginDay 22 = .ok (.iconst 2, 1) := by decide +kernel
theorem dX1_beginDay_23 : decode cX1_beginDay 23 = .ok (.iload_n 1, 1) := by decide +kernel
theorem dX1_beginDay_24 : decode cX1_beginDay 24 = .ok (.imul, 1) := by decide +kernel
theorem dX1_beginDay_25 : decode cX1_beginDay 25 = .ok (.iadd, 1) := by decide +kernel
theorem dX1_beginDay_26 : decode cX1_beginDay 26 = .ok (.iload_n 2, 1) := by decide +kernel
theorem dX1_beginDay_27 : decode cX1_beginDay 27 = .ok (.isub, 1) := by decide +kernel
theorem dX1_beginDay_28 : decode cX1_beginDay 28 = .ok (.aload_n 0, 1) := by decide +kernel
theorem dX1_beginDay_29 : decode cX1_beginDay 29 = .ok (.invokevirtual 69, 3) := by decide +kernel
theorem dX1_beginDay_32 : decode cX1_beginDay 32 = .ok (.isub, 1) := by decide +kernel
theorem dX1_beginDay_33 : decode cX1_beginDay 33 = .ok (.invokestatic 72, 3) := by decide +kernel
theorem dX1_beginDay_36 : decode cX1_beginDay 36 = .ok (.putfield 78, 3) := by decide +kernel
theorem dX1_beginDay_39 : decode cX1_beginDay 39 = .ok (.aload_n 0, 1) := by decide +kernel
theorem dX1_beginDay_40 : decode cX1_beginDay 40 = .ok (.aload_n 0, 1) := by decide +kernel
theorem dX1_beginDay_41 : decode cX1_beginDay 41 = .ok (.getfield 49, 3) := by decide +kernel
theorem dX1_beginDay_44 : decode cX1_beginDay 44 = .ok (.ifnull 13, 3) := by decide +kernel
theorem dX1_beginDay_47 : decode cX1_beginDay 47 = .ok (.aload_n 0, 1) := by decide +kernel
theorem dX1_beginDay_48 : decode cX1_beginDay 48 = .ok (.getfield 49, 3) := by decide +kernel
theorem dX1_beginDay_51 : decode cX1_beginDay 51 = .ok (.invokevirtual 81, 3) := by decide +kernel
theorem dX1_beginDay_54 : decode cX1_beginDay 54 = .ok (.ifCond .ne 20, 3) := by decide +kernel
theorem dX1_beginDay_57 : decode cX1_beginDay 57 = .ok (.aload_n 0, 1) := by decide +kernel
theorem dX1_beginDay_58 : decode cX1_beginDay 58 = .ok (.getfield 57, 3) := by decide +kernel
theorem dX1_beginDay_61 : decode cX1_beginDay 61 = .ok (.ifnull 17, 3) := by decide +kernel
theorem dX1_beginDay_64 : decode cX1_beginDay 64 = .ok (.aload_n 0, 1) := by decide +kernel
theorem dX1_beginDay_65 : decode cX1_beginDay 65 = .ok (.getfield 57, 3) := by decide +kernel
theorem dX1_beginDay_68 : decode cX1_beginDay 68 = .ok (.invokevirtual 81, 3) := by decide +kernel
theorem dX1_beginDay_71 : decode cX1_beginDay 71 = .ok (.ifCond .eq 7, 3) := by decide +kernel
theorem dX1_beginDay_74 : decode cX1_beginDay 74 = .ok (.iconst 1, 1) := by decide +kernel
theorem dX1_beginDay_75 : decode cX1_beginDay 75 = .ok (.goto 4, 3) := by decide +kernel
theorem dX1_beginDay_78 : decode cX1_beginDay 78 = .ok (.iconst 0, 1) := by decide +kernel
theorem dX1_beginDay_79 : decode cX1_beginDay 79 = .ok (.putfield 84, 3) := by decide +kernel
theorem dX1_beginDay_82 : decode cX1_beginDay 82 = .ok (.return_, 1) := by decide +kernel
theorem dX1_endDay_0 : decode cX1_endDay 0 = .ok (.aload_n 0, 1) := by decide +kernel
theorem dX1_endDay_1 : decode cX1_endDay 1 = .ok (.getfield 15, 3) := by decide +kernel
theorem dX1_endDay_4 : decode cX1_endDay 4 = .ok (.ifnonnull 4, 3) := by decide +kernel
theorem dX1_endDay_7 : decode cX1_endDay 7 = .ok (.return_, 1) := by decide +kernel
theorem dX1_endDay_8 : decode cX1_endDay 8 = .ok (.aload_n 0, 1) := by decide +kernel
theorem dX1_endDay_9 : decode cX1_endDay 9 = .ok (.iconst 0, 1) := by decide +kernel
theorem dX1_endDay_10 : decode cX1_endDay 10 = .ok (.aload_n 0, 1) := by decide +kernel
theorem dX1_endDay_11 : decode cX1_endDay 11 = .ok (.getfield 22, 3) := by decide +kernel
theorem dX1_endDay_14 : decode cX1_endDay 14 = .ok (.aload_n 0, 1) := by decide +kernel
theorem dX1_endDay_15 : decode cX1_endDay 15 = .ok (.getfield 78, 3) := by decide +kernel
theorem dX1_endDay_18 : decode cX1_endDay 18 = .ok (.isub, 1) := by decide +kernel
theorem dX1_endDay_19 : decode cX1_endDay 19 = .ok (.invokestatic 72, 3) := by decide +kernel
theorem dX1_endDay_22 : decode cX1_endDay 22 = .ok (.putfield 22, 3) := by decide +kernel
theorem dX1_endDay_25 : decode cX1_endDay 25 = .ok (.aload_n 0, 1) := by decide +kernel
theorem dX1_endDay_26 : decode cX1_endDay 26 = .ok (.iconst 0, 1) := by decide +kernel
theorem dX1_endDay_27 : decode cX1_endDay 27 = .ok (.aload_n 0, 1) := by decide +kernel
theorem dX1_endDay_28 : decode cX1_endDay 28 = .ok (.getfield 25, 3) := by decide +kernel
theorem dX1_endDay_31 : decode cX1_endDay 31 = .ok (.aload_n 0, 1) := by decide +kernel
theorem dX1_endDay_32 : decode cX1_endDay 32 = .ok (.getfield 78, 3) := by decide +kernel
theorem dX1_endDay_35 : decode cX1_endDay 35 = .ok (.iconst 2, 1) := by decide +kernel
theorem dX1_endDay_36 : decode cX1_endDay 36 = .ok (.idiv, 1) := by decide +kernel
theorem dX1_endDay_37 : decode cX1_endDay 37 = .ok (.isub, 1) := by decide +kernel
theorem dX1_endDay_38 : decode cX1_endDay 38 = .ok (.invokestatic 72, 3) := by decide +kernel
theorem dX1_endDay_41 : decode cX1_endDay 41 = .ok (.putfield 25, 3) := by decide +kernel
theorem dX1_endDay_44 : decode cX1_endDay 44 = .ok (.aload_n 0, 1) := by decide +kernel
theorem dX1_endDay_45 : decode cX1_endDay 45 = .ok (.aload_n 0, 1) := by decide +kernel
theorem dX1_endDay_46 : decode cX1_endDay 46 = .ok (.invokevirtual 35, 3) := by decide +kernel
theorem dX1_endDay_49 : decode cX1_endDay 49 = .ok (.aload_n 0, 1) := by decide +kernel
theorem dX1_endDay_50 : decode cX1_endDay 50 = .ok (.getfield 15, 3) := by decide +kernel
theorem dX1_endDay_53 : decode cX1_endDay 53 = .ok (.getfield 88, 3) := by decide +kernel
theorem dX1_endDay_56 : decode cX1_endDay 56 = .ok (.if_icmp .le 12, 3) := by decide +kernel
theorem dX1_endDay_59 : decode cX1_endDay 59 = .ok (.aload_n 0, 1) := by decide +kernel
theorem dX1_endDay_60 : decode cX1_endDay 60 = .ok (.getfield 42, 3) := by decide +kernel
theorem dX1_endDay_63 : decode cX1_endDay 63 = .ok (.iconst 1, 1) := by decide +kernel
theorem dX1_endDay_64 : decode cX1_endDay 64 = .ok (.iadd, 1) := by decide +kernel
theorem dX1_endDay_65 : decode cX1_endDay 65 = .ok (.goto 4, 3) := by decide +kernel
theorem dX1_endDay_68 : decode cX1_endDay 68 = .ok (.iconst 0, 1) := by decide +kernel
theorem dX1_endDay_69 : decode cX1_endDay 69 = .ok (.putfield 42, 3) := by decide +kernel
theorem dX1_endDay_72 : decode cX1_endDay 72 = .ok (.aload_n 0, 1) := by decide +kernel
theorem dX1_endDay_73 : decode cX1_endDay 73 = .ok (.getfield 42, 3) := by decide +kernel
theorem dX1_endDay_76 : decode cX1_endDay 76 = .ok (.iconst 3, 1) := by decide +kernel
theorem dX1_endDay_77 : decode cX1_endDay 77 = .ok (.if_icmp .lt 18, 3) := by decide +kernel
theorem dX1_endDay_80 : decode cX1_endDay 80 = .ok (.aload_n 0, 1) := by decide +kernel
theorem dX1_endDay_81 : decode cX1_endDay 81 = .ok (.bipush 9, 2) := by decide +kernel
theorem dX1_endDay_83 : decode cX1_endDay 83 = .ok (.aload_n 0, 1) := by decide +kernel
theorem dX1_endDay_84 : decode cX1_endDay 84 = .ok (.getfield 19, 3) := by decide +kernel
theorem dX1_endDay_87 : decode cX1_endDay 87 = .ok (.iconst 1, 1) := by decide +kernel
theorem dX1_endDay_88 : decode cX1_endDay 88 = .ok (.iadd, 1) := by decide +kernel
theorem dX1_endDay_89 : decode cX1_endDay 89 = .ok (.invokestatic 91, 3) := by decide +kernel
theorem dX1_endDay_92 : decode cX1_endDay 92 = .ok (.putfield 19, 3) := by decide +kernel
theorem dX1_endDay_95 : decode cX1_endDay 95 = .ok (.aload_n 0, 1) := by decide +kernel
theorem dX1_endDay_96 : decode cX1_endDay 96 = .ok (.getfield 19, 3) := by decide +kernel
theorem dX1_endDay_99 : decode cX1_endDay 99 = .ok (.ifCond .ne 15, 3) := by decide +kernel
theorem dX1_endDay_102 : decode cX1_endDay 102 = .ok (.aload_n 0, 1) := by decide +kernel
theorem dX1_endDay_103 : decode cX1_endDay 103 = .ok (.getfield 84, 3) := by decide +kernel
theorem dX1_endDay_106 : decode cX1_endDay 106 = .ok (.ifCond .eq 8, 3) := by decide +kernel
theorem dX1_endDay_109 : decode cX1_endDay 109 = .ok (.aload_n 0, 1) := by decide +kernel
theorem dX1_endDay_110 : decode cX1_endDay 110 = .ok (.iconst 1, 1) := by decide +kernel
theorem dX1_endDay_111 : decode cX1_endDay 111 = .ok (.putfield 19, 3) := by decide +kernel
theorem dX1_endDay_114 : decode cX1_endDay 114 = .ok (.return_, 1) := by decide +kernel
theorem dX1_tells_0 : decode cX1_tells 0 = .ok (.aload_n 0, 1) := by decide +kernel
theorem dX1_tells_1 : decode cX1_tells 1 = .ok (.getfield 15, 3) := by decide +kernel
theorem dX1_tells_4 : decode cX1_tells 4 = .ok (.ifnonnull 5, 3) := by decide +kernel
theorem dX1_tells_7 : decode cX1_tells 7 = .ok (.iconst (-1), 1) := by decide +kernel
theorem dX1_tells_8 : decode cX1_tells 8 = .ok (.ireturn, 1) := by decide +kernel
theorem dX1_tells_9 : decode cX1_tells 9 = .ok (.iload_n 1, 1) := by decide +kernel
theorem dX1_tells_10 : decode cX1_tells 10 = .ok (.tableswitch 80 0 6 #[42, 50, 55, 60, 65, 70, 75], 42) := by decide +kernel
theorem dX1_tells_52 : decode cX1_tells 52 = .ok (.aload_n 0, 1) := by decide +kernel
theorem dX1_tells_53 : decode cX1_tells 53 = .ok (.getfield 15, 3) := by decide +kernel
theorem dX1_tells_56 : decode cX1_tells 56 = .ok (.getfield 94, 3) := by decide +kernel
theorem dX1_tells_59 : decode cX1_tells 59 = .ok (.ireturn, 1) := by decide +kernel
theorem dX1_tells_60 : decode cX1_tells 60 = .ok (.aload_n 0, 1) := by decide +kernel
theorem dX1_tells_61 : decode cX1_tells 61 = .ok (.getfield 22, 3) := by decide +kernel
theorem dX1_tells_64 : decode cX1_tells 64 = .ok (.ireturn, 1) := by decide +kernel
theorem dX1_tells_65 : decode cX1_tells 65 = .ok (.aload_n 0, 1) := by decide +kernel
theorem dX1_tells_66 : decode cX1_tells 66 = .ok (.getfield 25, 3) := by decide +kernel
theorem dX1_tells_69 : decode cX1_tells 69 = .ok (.ireturn, 1) := by decide +kernel
theorem dX1_tells_70 : decode cX1_tells 70 = .ok (.aload_n 0, 1) := by decide +kernel
theorem dX1_tells_71 : decode cX1_tells 71 = .ok (.invokevirtual 35, 3) := by decide +kernel
theorem dX1_tells_74 : decode cX1_tells 74 = .ok (.ireturn, 1) := by decide +kernel
theorem dX1_tells_75 : decode cX1_tells 75 = .ok (.aload_n 0, 1) := by decide +kernel
theorem dX1_tells_76 : decode cX1_tells 76 = .ok (.getfield 42, 3) := by decide +kernel
theorem dX1_tells_79 : decode cX1_tells 79 = .ok (.ireturn, 1) := by decide +kernel
theorem dX1_tells_80 : decode cX1_tells 80 = .ok (.aload_n 0, 1) := by decide +kernel
theorem dX1_tells_81 : decode cX1_tells 81 = .ok (.getfield 19, 3) := by decide +kernel
theorem dX1_tells_84 : decode cX1_tells 84 = .ok (.ireturn, 1) := by decide +kernel
theorem dX1_tells_85 : decode cX1_tells 85 = .ok (.aload_n 0, 1) := by decide +kernel
theorem dX1_tells_86 : decode cX1_tells 86 = .ok (.invokevirtual 97, 3) := by decide +kernel
theorem dX1_tells_89 : decode cX1_tells 89 = .ok (.ireturn, 1) := by decide +kernel
theorem dX1_tells_90 : decode cX1_tells 90 = .ok (.aload_n 0, 1) := by decide +kernel
theorem dX1_tells_91 : decode cX1_tells 91 = .ok (.invokevirtual 69, 3) := by decide +kernel
theorem dX1_tells_94 : decode cX1_tells 94 = .ok (.ireturn, 1) := by decide +kernel
theorem dX2_init_0 : decode cX2_init 0 = .ok (.aload_n 0, 1) := by decide +kernel
theorem dX2_init_1 : decode cX2_init 1 = .ok (.invokespecial 1, 3) := by decide +kernel
theorem dX2_init_4 : decode cX2_init 4 = .ok (.aload_n 0, 1) := by decide +kernel
theorem dX2_init_5 : decode cX2_init 5 = .ok (.aload_n 1, 1) := by decide +kernel
theorem dX2_init_6 : decode cX2_init 6 = .ok (.putfield 7, 3) := by decide +kernel
theorem dX2_init_9 : decode cX2_init 9 = .ok (.aload_n 0, 1) := by decide +kernel
theorem dX2_init_10 : decode cX2_init 10 = .ok (.iload_n 2, 1) := by decide +kernel
theorem dX2_init_11 : decode cX2_init 11 = .ok (.putfield 13, 3) := by decide +kernel
theorem dX2_init_14 : decode cX2_init 14 = .ok (.aload_n 0, 1) := by decide +kernel
theorem dX2_init_15 : decode cX2_init 15 = .ok (.iload_n 3, 1) := by decide +kernel
theorem dX2_init_16 : decode cX2_init 16 = .ok (.putfield 17, 3) := by decide +kernel
theorem dX2_init_19 : decode cX2_init 19 = .ok (.aload_n 0, 1) := by decide +kernel
theorem dX2_init_20 : decode cX2_init 20 = .ok (.iconst 0, 1) := by decide +kernel
theorem dX2_init_21 : decode cX2_init 21 = .ok (.putfield 20, 3) := by decide +kernel
theorem dX2_init_24 : decode cX2_init 24 = .ok (.return_, 1) := by decide +kernel
theorem dX2_needsSome_0 : decode cX2_needsSome 0 = .ok (.aload_n 0, 1) := by decide +kernel
theorem dX2_needsSome_1 : decode cX2_needsSome 1 = .ok (.getfield 20, 3) := by decide +kernel
theorem dX2_needsSome_4 : decode cX2_needsSome 4 = .ok (.aload_n 0, 1) := by decide +kernel
theorem dX2_needsSome_5 : decode cX2_needsSome 5 = .ok (.getfield 13, 3) := by decide +kernel
theorem dX2_needsSome_8 : decode cX2_needsSome 8 = .ok (.if_icmp .ge 7, 3) := by decide +kernel
theorem dX2_needsSome_11 : decode cX2_needsSome 11 = .ok (.iconst 1, 1) := by decide +kernel
theorem dX2_needsSome_12 : decode cX2_needsSome 12 = .ok (.goto 4, 3) := by decide +kernel
theorem dX2_needsSome_15 : decode cX2_needsSome 15 = .ok (.iconst 0, 1) := by decide +kernel
theorem dX2_needsSome_16 : decode cX2_needsSome 16 = .ok (.ireturn, 1) := by decide +kernel
theorem dX3_init_0 : decode cX3_init 0 = .ok (.aload_n 0, 1) := by decide +kernel
theorem dX3_init_1 : decode cX3_init 1 = .ok (.invokespecial 3, 3) := by decide +kernel
theorem dX3_init_4 : decode cX3_init 4 = .ok (.aload_n 0, 1) := by decide +kernel
theorem dX3_init_5 : decode cX3_init 5 = .ok (.bipush 40, 2) := by decide +kernel
theorem dX3_init_7 : decode cX3_init 7 = .ok (.anewarray 9, 3) := by decide +kernel
theorem dX3_init_10 : decode cX3_init 10 = .ok (.putfield 11, 3) := by decide +kernel
theorem dX3_init_13 : decode cX3_init 13 = .ok (.iconst 0, 1) := by decide +kernel
theorem dX3_init_14 : decode cX3_init 14 = .ok (.istore_n 1, 1) := by decide +kernel
theorem dX3_init_15 : decode cX3_init 15 = .ok (.iload_n 1, 1) := by decide +kernel
theorem dX3_init_16 : decode cX3_init 16 = .ok (.iconst 5, 1) := by decide +kernel
theorem dX3_init_17 : decode cX3_init 17 = .ok (.if_icmp .ge 67, 3) := by decide +kernel
theorem dX3_init_20 : decode cX3_init 20 = .ok (.aconst_null, 1) := by decide +kernel
theorem dX3_init_21 : decode cX3_init 21 = .ok (.astore_n 2, 1) := by decide +kernel
theorem dX3_init_22 : decode cX3_init 22 = .ok (.iconst 0, 1) := by decide +kernel
theorem dX3_init_23 : decode cX3_init 23 = .ok (.istore_n 3, 1) := by decide +kernel
theorem dX3_init_24 : decode cX3_init 24 = .ok (.iload_n 3, 1) := by decide +kernel
theorem dX3_init_25 : decode cX3_init 25 = .ok (.bipush 8, 2) := by decide +kernel
theorem dX3_init_27 : decode cX3_init 27 = .ok (.if_icmp .ge 51, 3) := by decide +kernel
theorem dX3_init_30 : decode cX3_init 30 = .ok (.new 9, 3) := by decide +kernel
theorem dX3_init_33 : decode cX3_init 33 = .ok (.dup, 1) := by decide +kernel
theorem dX3_init_34 : decode cX3_init 34 = .ok (.iload_n 1, 1) := by decide +kernel
theorem dX3_init_35 : decode cX3_init 35 = .ok (.invokespecial 17, 3) := by decide +kernel
theorem dX3_init_38 : decode cX3_init 38 = .ok (.astore 4, 2) := by decide +kernel
theorem dX3_init_40 : decode cX3_init 40 = .ok (.aload 4, 2) := by decide +kernel
theorem dX3_init_42 : decode cX3_init 42 = .ok (.aload_n 2, 1) := by decide +kernel
theorem dX3_init_43 : decode cX3_init 43 = .ok (.putfield 20, 3) := by decide +kernel
theorem dX3_init_46 : decode cX3_init 46 = .ok (.aload_n 2, 1) := by decide +kernel
theorem dX3_init_47 : decode cX3_init 47 = .ok (.ifnull 9, 3) := by decide +kernel
theorem dX3_init_50 : decode cX3_init 50 = .ok (.aload_n 2, 1) := by decide +kernel
theorem dX3_init_51 : decode cX3_init 51 = .ok (.aload 4, 2) := by decide +kernel
theorem dX3_init_53 : decode cX3_init 53 = .ok (.putfield 24, 3) := by decide +kernel
theorem dX3_init_56 : decode cX3_init 56 = .ok (.aload_n 0, 1) := by decide +kernel
theorem dX3_init_57 : decode cX3_init 57 = .ok (.getfield 11, 3) := by decide +kernel
theorem dX3_init_60 : decode cX3_init 60 = .ok (.iload_n 1, 1) := by decide +kernel
theorem dX3_init_61 : decode cX3_init 61 = .ok (.bipush 8, 2) := by decide +kernel
theorem dX3_init_63 : decode cX3_init 63 = .ok (.imul, 1) := by decide +kernel
theorem dX3_init_64 : decode cX3_init 64 = .ok (.iload_n 3, 1) := by decide +kernel
theorem dX3_init_65 : decode cX3_init 65 = .ok (.iadd, 1) := by decide +kernel
theorem dX3_init_66 : decode cX3_init 66 = .ok (.aload 4, 2) := by decide +kernel
theorem dX3_init_68 : decode cX3_init 68 = .ok (.aastore, 1) := by decide +kernel
theorem dX3_init_69 : decode cX3_init 69 = .ok (.aload 4, 2) := by decide +kernel
theorem dX3_init_71 : decode cX3_init 71 = .ok (.astore_n 2, 1) := by decide +kernel
theorem dX3_init_72 : decode cX3_init 72 = .ok (.iinc 3 1, 3) := by decide +kernel
theorem dX3_init_75 : decode cX3_init 75 = .ok (.goto (-51), 3) := by decide +kernel
theorem dX3_init_78 : decode cX3_init 78 = .ok (.iinc 1 1, 3) := by decide +kernel
theorem dX3_init_81 : decode cX3_init 81 = .ok (.goto (-66), 3) := by decide +kernel
theorem dX3_init_84 : decode cX3_init 84 = .ok (.return_, 1) := by decide +kernel
theorem dX3_hookAt_0 : decode cX3_hookAt 0 = .ok (.iload_n 1, 1) := by decide +kernel
theorem dX3_hookAt_1 : decode cX3_hookAt 1 = .ok (.iconst 0, 1) := by decide +kernel
theorem dX3_hookAt_2 : decode cX3_hookAt 2 = .ok (.iconst 4, 1) := by decide +kernel
theorem dX3_hookAt_3 : decode cX3_hookAt 3 = .ok (.invokestatic 27, 3) := by decide +kernel
theorem dX3_hookAt_6 : decode cX3_hookAt 6 = .ok (.ifCond .eq 13, 3) := by decide +kernel
theorem dX3_hookAt_9 : decode cX3_hookAt 9 = .ok (.iload_n 2, 1) := by decide +kernel
theorem dX3_hookAt_10 : decode cX3_hookAt 10 = .ok (.iconst 0, 1) := by decide +kernel
theorem dX3_hookAt_11 : decode cX3_hookAt 11 = .ok (.bipush 7, 2) := by decide +kernel
theorem dX3_hookAt_13 : decode cX3_hookAt 13 = .ok (.invokestatic 27, 3) := by decide +kernel
theorem dX3_hookAt_16 : decode cX3_hookAt 16 = .ok (.ifCond .ne 5, 3) := by decide +kernel
theorem dX3_hookAt_19 : decode cX3_hookAt 19 = .ok (.aconst_null, 1) := by decide +kernel
theorem dX3_hookAt_20 : decode cX3_hookAt 20 = .ok (.areturn, 1) := by decide +kernel
theorem dX3_hookAt_21 : decode cX3_hookAt 21 = .ok (.aload_n 0, 1) := by decide +kernel
theorem dX3_hookAt_22 : decode cX3_hookAt 22 = .ok (.getfield 11, 3) := by decide +kernel
theorem dX3_hookAt_25 : decode cX3_hookAt 25 = .ok (.iload_n 1, 1) := by decide +kernel
theorem dX3_hookAt_26 : decode cX3_hookAt 26 = .ok (.bipush 8, 2) := by decide +kernel
theorem dX3_hookAt_28 : decode cX3_hookAt 28 = .ok (.imul, 1) := by decide +kernel
theorem dX3_hookAt_29 : decode cX3_hookAt 29 = .ok (.iload_n 2, 1) := by decide +kernel
theorem dX3_hookAt_30 : decode cX3_hookAt 30 = .ok (.iadd, 1) := by decide +kernel
theorem dX3_hookAt_31 : decode cX3_hookAt 31 = .ok (.aaload, 1) := by decide +kernel
theorem dX3_hookAt_32 : decode cX3_hookAt 32 = .ok (.areturn, 1) := by decide +kernel
theorem dX3_copyAllOf_0 : decode cX3_copyAllOf 0 = .ok (.iconst 0, 1) := by decide +kernel
theorem dX3_copyAllOf_1 : decode cX3_copyAllOf 1 = .ok (.istore_n 2, 1) := by decide +kernel
theorem dX3_copyAllOf_2 : decode cX3_copyAllOf 2 = .ok (.iload_n 2, 1) := by decide +kernel
theorem dX3_copyAllOf_3 : decode cX3_copyAllOf 3 = .ok (.aload_n 0, 1) := by decide +kernel
theorem dX3_copyAllOf_4 : decode cX3_copyAllOf 4 = .ok (.getfield 11, 3) := by decide +kernel
theorem dX3_copyAllOf_7 : decode cX3_copyAllOf 7 = .ok (.arraylength, 1) := by decide +kernel
theorem dX3_copyAllOf_8 : decode cX3_copyAllOf 8 = .ok (.if_icmp .ge 33, 3) := by decide +kernel
theorem dX3_copyAllOf_11 : decode cX3_copyAllOf 11 = .ok (.iload_n 2, 1) := by decide +kernel
theorem dX3_copyAllOf_12 : decode cX3_copyAllOf 12 = .ok (.aload_n 1, 1) := by decide +kernel
theorem dX3_copyAllOf_13 : decode cX3_copyAllOf 13 = .ok (.getfield 11, 3) := by decide +kernel
theorem dX3_copyAllOf_16 : decode cX3_copyAllOf 16 = .ok (.arraylength, 1) := by decide +kernel
theorem dX3_copyAllOf_17 : decode cX3_copyAllOf 17 = .ok (.if_icmp .ge 24, 3) := by decide +kernel
theorem dX3_copyAllOf_20 : decode cX3_copyAllOf 20 = .ok (.aload_n 0, 1) := by decide +kernel
theorem dX3_copyAllOf_21 : decode cX3_copyAllOf 21 = .ok (.getfield 11, 3) := by decide +kernel
theorem dX3_copyAllOf_24 : decode cX3_copyAllOf 24 = .ok (.iload_n 2, 1) := by decide +kernel
theorem dX3_copyAllOf_25 : decode cX3_copyAllOf 25 = .ok (.aaload, 1) := by decide +kernel
theorem dX3_copyAllOf_26 : decode cX3_copyAllOf 26 = .ok (.aload_n 1, 1) := by decide +kernel
theorem dX3_copyAllOf_27 : decode cX3_copyAllOf 27 = .ok (.getfield 11, 3) := by decide +kernel
theorem dX3_copyAllOf_30 : decode cX3_copyAllOf 30 = .ok (.iload_n 2, 1) := by decide +kernel
theorem dX3_copyAllOf_31 : decode cX3_copyAllOf 31 = .ok (.aaload, 1) := by decide +kernel
theorem dX3_copyAllOf_32 : decode cX3_copyAllOf 32 = .ok (.invokevirtual 31, 3) := by decide +kernel
theorem dX3_copyAllOf_35 : decode cX3_copyAllOf 35 = .ok (.iinc 2 1, 3) := by decide +kernel
theorem dX3_copyAllOf_38 : decode cX3_copyAllOf 38 = .ok (.goto (-36), 3) := by decide +kernel
theorem dX3_copyAllOf_41 : decode cX3_copyAllOf 41 = .ok (.return_, 1) := by decide +kernel
theorem dX3_turnAllOn_0 : decode cX3_turnAllOn 0 = .ok (.iconst 0, 1) := by decide +kernel
theorem dX3_turnAllOn_1 : decode cX3_turnAllOn 1 = .ok (.istore_n 2, 1) := by decide +kernel
theorem dX3_turnAllOn_2 : decode cX3_turnAllOn 2 = .ok (.aload_n 0, 1) := by decide +kernel
theorem dX3_turnAllOn_3 : decode cX3_turnAllOn 3 = .ok (.getfield 11, 3) := by decide +kernel
theorem dX3_turnAllOn_6 : decode cX3_turnAllOn 6 = .ok (.astore_n 3, 1) := by decide +kernel
theorem dX3_turnAllOn_7 : decode cX3_turnAllOn 7 = .ok (.aload_n 3, 1) := by decide +kernel
theorem dX3_turnAllOn_8 : decode cX3_turnAllOn 8 = .ok (.arraylength, 1) := by decide +kernel
theorem dX3_turnAllOn_9 : decode cX3_turnAllOn 9 = .ok (.istore 4, 2) := by decide +kernel
theorem dX3_turnAllOn_11 : decode cX3_turnAllOn 11 = .ok (.iconst 0, 1) := by decide +kernel
theorem dX3_turnAllOn_12 : decode cX3_turnAllOn 12 = .ok (.istore 5, 2) := by decide +kernel
theorem dX3_turnAllOn_14 : decode cX3_turnAllOn 14 = .ok (.iload 5, 2) := by decide +kernel
theorem dX3_turnAllOn_16 : decode cX3_turnAllOn 16 = .ok (.iload 4, 2) := by decide +kernel
theorem dX3_turnAllOn_18 : decode cX3_turnAllOn 18 = .ok (.if_icmp .ge 40, 3) := by decide +kernel
theorem dX3_turnAllOn_21 : decode cX3_turnAllOn 21 = .ok (.aload_n 3, 1) := by decide +kernel
theorem dX3_turnAllOn_22 : decode cX3_turnAllOn 22 = .ok (.iload 5, 2) := by decide +kernel
theorem dX3_turnAllOn_24 : decode cX3_turnAllOn 24 = .ok (.aaload, 1) := by decide +kernel
theorem dX3_turnAllOn_25 : decode cX3_turnAllOn 25 = .ok (.astore 6, 2) := by decide +kernel
theorem dX3_turnAllOn_27 : decode cX3_turnAllOn 27 = .ok (.aload 6, 2) := by decide +kernel
theorem dX3_turnAllOn_29 : decode cX3_turnAllOn 29 = .ok (.getfield 35, 3) := by decide +kernel
theorem dX3_turnAllOn_32 : decode cX3_turnAllOn 32 = .ok (.iload_n 1, 1) := by decide +kernel
theorem dX3_turnAllOn_33 : decode cX3_turnAllOn 33 = .ok (.if_icmp .ne 19, 3) := by decide +kernel
theorem dX3_turnAllOn_36 : decode cX3_turnAllOn 36 = .ok (.aload 6, 2) := by decide +kernel
theorem dX3_turnAllOn_38 : decode cX3_turnAllOn 38 = .ok (.invokevirtual 39, 3) := by decide +kernel
theorem dX3_turnAllOn_41 : decode cX3_turnAllOn 41 = .ok (.ifCond .eq 11, 3) := by decide +kernel
theorem dX3_turnAllOn_44 : decode cX3_turnAllOn 44 = .ok (.aload 6, 2) := by decide +kernel
theorem dX3_turnAllOn_46 : decode cX3_turnAllOn 46 = .ok (.invokevirtual 43, 3) := by decide +kernel
theorem dX3_turnAllOn_49 : decode cX3_turnAllOn 49 = .ok (.iinc 2 1, 3) := by decide +kernel
theorem dX3_turnAllOn_52 : decode cX3_turnAllOn 52 = .ok (.iinc 5 1, 3) := by decide +kernel
theorem dX3_turnAllOn_55 : decode cX3_turnAllOn 55 = .ok (.goto (-41), 3) := by decide +kernel
theorem dX3_turnAllOn_58 : decode cX3_turnAllOn 58 = .ok (.iload_n 2, 1) := by decide +kernel
theorem dX3_turnAllOn_59 : decode cX3_turnAllOn 59 = .ok (.ireturn, 1) := by decide +kernel
theorem dX3_letDaysGo_0 : decode cX3_letDaysGo 0 = .ok (.iconst 0, 1) := by decide +kernel
theorem dX3_letDaysGo_1 : decode cX3_letDaysGo 1 = .ok (.istore 4, 2) := by decide +kernel
theorem dX3_letDaysGo_3 : decode cX3_letDaysGo 3 = .ok (.iload 4, 2) := by decide +kernel
theorem dX3_letDaysGo_5 : decode cX3_letDaysGo 5 = .ok (.iload_n 1, 1) := by decide +kernel
theorem dX3_letDaysGo_6 : decode cX3_letDaysGo 6 = .ok (.if_icmp .ge 89, 3) := by decide +kernel
theorem dX3_letDaysGo_9 : decode cX3_letDaysGo 9 = .ok (.aload_n 0, 1) := by decide +kernel
theorem dX3_letDaysGo_10 : decode cX3_letDaysGo 10 = .ok (.getfield 11, 3) := by decide +kernel
theorem dX3_letDaysGo_13 : decode cX3_letDaysGo 13 = .ok (.astore 5, 2) := by decide +kernel
theorem dX3_letDaysGo_15 : decode cX3_letDaysGo 15 = .ok (.aload 5, 2) := by decide +kernel
theorem dX3_letDaysGo_17 : decode cX3_letDaysGo 17 = .ok (.arraylength, 1) := by decide +kernel
theorem dX3_letDaysGo_18 : decode cX3_letDaysGo 18 = .ok (.istore 6, 2) := by decide +kernel
theorem dX3_letDaysGo_20 : decode cX3_letDaysGo 20 = .ok (.iconst 0, 1) := by decide +kernel
theorem dX3_letDaysGo_21 : decode cX3_letDaysGo 21 = .ok (.istore 7, 2) := by decide +kernel
theorem dX3_letDaysGo_23 : decode cX3_letDaysGo 23 = .ok (.iload 7, 2) := by decide +kernel
theorem dX3_letDaysGo_25 : decode cX3_letDaysGo 25 = .ok (.iload 6, 2) := by decide +kernel
theorem dX3_letDaysGo_27 : decode cX3_letDaysGo 27 = .ok (.if_icmp .ge 23, 3) := by decide +kernel
theorem dX3_letDaysGo_30 : decode cX3_letDaysGo 30 = .ok (.aload 5, 2) := by decide +kernel
theorem dX3_letDaysGo_32 : decode cX3_letDaysGo 32 = .ok (.iload 7, 2) := by decide +kernel
theorem dX3_letDaysGo_34 : decode cX3_letDaysGo 34 = .ok (.aaload, 1) := by decide +kernel
theorem dX3_letDaysGo_35 : decode cX3_letDaysGo 35 = .ok (.astore 8, 2) := by decide +kernel
theorem dX3_letDaysGo_37 : decode cX3_letDaysGo 37 = .ok (.aload 8, 2) := by decide +kernel
theorem dX3_letDaysGo_39 : decode cX3_letDaysGo 39 = .ok (.iload_n 2, 1) := by decide +kernel
theorem dX3_letDaysGo_40 : decode cX3_letDaysGo 40 = .ok (.iload_n 3, 1) := by decide +kernel
theorem dX3_letDaysGo_41 : decode cX3_letDaysGo 41 = .ok (.invokevirtual 46, 3) := by decide +kernel
theorem dX3_letDaysGo_44 : decode cX3_letDaysGo 44 = .ok (.iinc 7 1, 3) := by decide +kernel
theorem dX3_letDaysGo_47 : decode cX3_letDaysGo 47 = .ok (.goto (-24), 3) := by decide +kernel
theorem dX3_letDaysGo_50 : decode cX3_letDaysGo 50 = .ok (.aload_n 0, 1) := by decide +kernel
theorem dX3_letDaysGo_51 : decode cX3_letDaysGo 51 = .ok (.getfield 11, 3) := by decide +kernel
theorem dX3_letDaysGo_54 : decode cX3_letDaysGo 54 = .ok (.astore 5, 2) := by decide +kernel
theorem dX3_letDaysGo_56 : decode cX3_letDaysGo 56 = .ok (.aload 5, 2) := by decide +kernel
theorem dX3_letDaysGo_58 : decode cX3_letDaysGo 58 = .ok (.arraylength, 1) := by decide +kernel
theorem dX3_letDaysGo_59 : decode cX3_letDaysGo 59 = .ok (.istore 6, 2) := by decide +kernel
theorem dX3_letDaysGo_61 : decode cX3_letDaysGo 61 = .ok (.iconst 0, 1) := by decide +kernel
theorem dX3_letDaysGo_62 : decode cX3_letDaysGo 62 = .ok (.istore 7, 2) := by decide +kernel
theorem dX3_letDaysGo_64 : decode cX3_letDaysGo 64 = .ok (.iload 7, 2) := by decide +kernel
theorem dX3_letDaysGo_66 : decode cX3_letDaysGo 66 = .ok (.iload 6, 2) := by decide +kernel
theorem dX3_letDaysGo_68 : decode cX3_letDaysGo 68 = .ok (.if_icmp .ge 21, 3) := by decide +kernel
theorem dX3_letDaysGo_71 : decode cX3_letDaysGo 71 = .ok (.aload 5, 2) := by decide +kernel
theorem dX3_letDaysGo_73 : decode cX3_letDaysGo 73 = .ok (.iload 7, 2) := by decide +kernel
theorem dX3_letDaysGo_75 : decode cX3_letDaysGo 75 = .ok (.aaload, 1) := by decide +kernel
theorem dX3_letDaysGo_76 : decode cX3_letDaysGo 76 = .ok (.astore 8, 2) := by decide +kernel
theorem dX3_letDaysGo_78 : decode cX3_letDaysGo 78 = .ok (.aload 8, 2) := by decide +kernel
theorem dX3_letDaysGo_80 : decode cX3_letDaysGo 80 = .ok (.invokevirtual 50, 3) := by decide +kernel
theorem dX3_letDaysGo_83 : decode cX3_letDaysGo 83 = .ok (.iinc 7 1, 3) := by decide +kernel
theorem dX3_letDaysGo_86 : decode cX3_letDaysGo 86 = .ok (.goto (-22), 3) := by decide +kernel
theorem dX3_letDaysGo_89 : decode cX3_letDaysGo 89 = .ok (.iinc 4 1, 3) := by decide +kernel
theorem dX3_letDaysGo_92 : decode cX3_letDaysGo 92 = .ok (.goto (-89), 3) := by decide +kernel
theorem dX3_letDaysGo_95 : decode cX3_letDaysGo 95 = .ok (.return_, 1) := by decide +kernel
theorem dX3_giveTo_0 : decode cX3_giveTo 0 = .ok (.iconst 0, 1) := by decide +kernel
theorem dX3_giveTo_1 : decode cX3_giveTo 1 = .ok (.istore_n 2, 1) := by decide +kernel
theorem dX3_giveTo_2 : decode cX3_giveTo 2 = .ok (.iconst 4, 1) := by decide +kernel
theorem dX3_giveTo_3 : decode cX3_giveTo 3 = .ok (.istore_n 3, 1) := by decide +kernel
theorem dX3_giveTo_4 : decode cX3_giveTo 4 = .ok (.iload_n 3, 1) := by decide +kernel
theorem dX3_giveTo_5 : decode cX3_giveTo 5 = .ok (.ifCond .lt 73, 3) := by decide +kernel
theorem dX3_giveTo_8 : decode cX3_giveTo 8 = .ok (.iconst 0, 1) := by decide +kernel
theorem dX3_giveTo_9 : decode cX3_giveTo 9 = .ok (.istore 4, 2) := by decide +kernel
theorem dX3_giveTo_11 : decode cX3_giveTo 11 = .ok (.iload 4, 2) := by decide +kernel
theorem dX3_giveTo_13 : decode cX3_giveTo 13 = .ok (.bipush 8, 2) := by decide +kernel
theorem dX3_giveTo_15 : decode cX3_giveTo 15 = .ok (.if_icmp .ge 57, 3) := by decide +kernel
theorem dX3_giveTo_18 : decode cX3_giveTo 18 = .ok (.aload_n 0, 1) := by decide +kernel
theorem dX3_giveTo_19 : decode cX3_giveTo 19 = .ok (.iload_n 3, 1) := by decide +kernel
theorem dX3_giveTo_20 : decode cX3_giveTo 20 = .ok (.iload 4, 2) := by decide +kernel
theorem dX3_giveTo_22 : decode cX3_giveTo 22 = .ok (.invokevirtual 53, 3) := by decide +kernel
theorem dX3_giveTo_25 : decode cX3_giveTo 25 = .ok (.astore 5, 2) := by decide +kernel
theorem dX3_giveTo_27 : decode cX3_giveTo 27 = .ok (.aload 5, 2) := by decide +kernel
theorem dX3_giveTo_29 : decode cX3_giveTo 29 = .ok (.ifnull 37, 3) := by decide +kernel
theorem dX3_giveTo_32 : decode cX3_giveTo 32 = .ok (.aload_n 1, 1) := by decide +kernel
theorem dX3_giveTo_33 : decode cX3_giveTo 33 = .ok (.invokevirtual 57, 3) := by decide +kernel
theorem dX3_giveTo_36 : decode cX3_giveTo 36 = .ok (.ifCond .eq 30, 3) := by decide +kernel
theorem dX3_giveTo_39 : decode cX3_giveTo 39 = .ok (.aload 5, 2) := by decide +kernel
theorem dX3_giveTo_41 : decode cX3_giveTo 41 = .ok (.aload_n 1, 1) := by decide +kernel
theorem dX3_giveTo_42 : decode cX3_giveTo 42 = .ok (.invokevirtual 62, 3) := by decide +kernel
theorem dX3_giveTo_45 : decode cX3_giveTo 45 = .ok (.ifCond .eq 21, 3) := by decide +kernel
theorem dX3_giveTo_48 : decode cX3_giveTo 48 = .ok (.aload 5, 2) := by decide +kernel
theorem dX3_giveTo_50 : decode cX3_giveTo 50 = .ok (.invokevirtual 66, 3) := by decide +kernel
theorem dX3_giveTo_53 : decode cX3_giveTo 53 = .ok (.aload_n 1, 1) := by decide +kernel
theorem dX3_giveTo_54 : decode cX3_giveTo 54 = .ok (.dup, 1) := by decide +kernel
theorem dX3_giveTo_55 : decode cX3_giveTo 55 = .ok (.getfield 69, 3) := by decide +kernel
theorem dX3_giveTo_58 : decode cX3_giveTo 58 = .ok (.iconst 1, 1) := by decide +kernel
theorem dX3_giveTo_59 : decode cX3_giveTo 59 = .ok (.iadd, 1) := by decide +kernel
theorem dX3_giveTo_60 : decode cX3_giveTo 60 = .ok (.putfield 69, 3) := by decide +kernel
theorem dX3_giveTo_63 : decode cX3_giveTo 63 = .ok (.iinc 2 1, 3) := by decide +kernel
theorem dX3_giveTo_66 : decode cX3_giveTo 66 = .ok (.iinc 4 1, 3) := by decide +kernel
theorem dX3_giveTo_69 : decode cX3_giveTo 69 = .ok (.goto (-58), 3) := by decide +kernel
theorem dX3_giveTo_72 : decode cX3_giveTo 72 = .ok (.iinc 3 (-1), 3) := by decide +kernel
theorem dX3_giveTo_75 : decode cX3_giveTo 75 = .ok (.goto (-71), 3) := by decide +kernel
theorem dX3_giveTo_78 : decode cX3_giveTo 78 = .ok (.iload_n 2, 1) := by decide +kernel
theorem dX3_giveTo_79 : decode cX3_giveTo 79 = .ok (.ireturn, 1) := by decide +kernel
theorem dX3_bundles_0 : decode cX3_bundles 0 = .ok (.iconst 0, 1) := by decide +kernel
theorem dX3_bundles_1 : decode cX3_bundles 1 = .ok (.istore_n 1, 1) := by decide +kernel
theorem dX3_bundles_2 : decode cX3_bundles 2 = .ok (.aload_n 0, 1) := by decide +kernel
theorem dX3_bundles_3 : decode cX3_bundles 3 = .ok (.getfield 11, 3) := by decide +kernel
theorem dX3_bundles_6 : decode cX3_bundles 6 = .ok (.astore_n 2, 1) := by decide +kernel
theorem dX3_bundles_7 : decode cX3_bundles 7 = .ok (.aload_n 2, 1) := by decide +kernel
theorem dX3_bundles_8 : decode cX3_bundles 8 = .ok (.arraylength, 1) := by decide +kernel
theorem dX3_bundles_9 : decode cX3_bundles 9 = .ok (.istore_n 3, 1) := by decide +kernel
theorem dX3_bundles_10 : decode cX3_bundles 10 = .ok (.iconst 0, 1) := by decide +kernel
theorem dX3_bundles_11 : decode cX3_bundles 11 = .ok (.istore 4, 2) := by decide +kernel
theorem dX3_bundles_13 : decode cX3_bundles 13 = .ok (.iload 4, 2) := by decide +kernel
theorem dX3_bundles_15 : decode cX3_bundles 15 = .ok (.iload_n 3, 1) := by decide +kernel
theorem dX3_bundles_16 : decode cX3_bundles 16 = .ok (.if_icmp .ge 26, 3) := by decide +kernel
theorem dX3_bundles_19 : decode cX3_bundles 19 = .ok (.aload_n 2, 1) := by decide +kernel
theorem dX3_bundles_20 : decode cX3_bundles 20 = .ok (.iload 4, 2) := by decide +kernel
theorem dX3_bundles_22 : decode cX3_bundles 22 = .ok (.aaload, 1) := by decide +kernel
theorem dX3_bundles_23 : decode cX3_bundles 23 = .ok (.astore 5, 2) := by decide +kernel
theorem dX3_bundles_25 : decode cX3_bundles 25 = .ok (.aload 5, 2) := by decide +kernel
theorem dX3_bundles_27 : decode cX3_bundles 27 = .ok (.invokevirtual 39, 3) := by decide +kernel
theorem dX3_bundles_30 : decode cX3_bundles 30 = .ok (.ifCond .eq 6, 3) := by decide +kernel
theorem dX3_bundles_33 : decode cX3_bundles 33 = .ok (.iinc 1 1, 3) := by decide +kernel
theorem dX3_bundles_36 : decode cX3_bundles 36 = .ok (.iinc 4 1, 3) := by decide +kernel
theorem dX3_bundles_39 : decode cX3_bundles 39 = .ok (.goto (-26), 3) := by decide +kernel
theorem dX3_bundles_42 : decode cX3_bundles 42 = .ok (.iload_n 1, 1) := by decide +kernel
theorem dX3_bundles_43 : decode cX3_bundles 43 = .ok (.ireturn, 1) := by decide +kernel
theorem dX3_mouldyBundles_0 : decode cX3_mouldyBundles 0 = .ok (.iconst 0, 1) := by decide +kernel
theorem dX3_mouldyBundles_1 : decode cX3_mouldyBundles 1 = .ok (.istore_n 1, 1) := by decide +kernel
theorem dX3_mouldyBundles_2 : decode cX3_mouldyBundles 2 = .ok (.aload_n 0, 1) := by decide +kernel
theorem dX3_mouldyBundles_3 : decode cX3_mouldyBundles 3 = .ok (.getfield 11, 3) := by decide +kernel
theorem dX3_mouldyBundles_6 : decode cX3_mouldyBundles 6 = .ok (.astore_n 2, 1) := by decide +kernel
theorem dX3_mouldyBundles_7 : decode cX3_mouldyBundles 7 = .ok (.aload_n 2, 1) := by decide +kernel
theorem dX3_mouldyBundles_8 : decode cX3_mouldyBundles 8 = .ok (.arraylength, 1) := by decide +kernel
theorem dX3_mouldyBundles_9 : decode cX3_mouldyBundles 9 = .ok (.istore_n 3, 1) := by decide +kernel
theorem dX3_mouldyBundles_10 : decode cX3_mouldyBundles 10 = .ok (.iconst 0, 1) := by decide +kernel
theorem dX3_mouldyBundles_11 : decode cX3_mouldyBundles 11 = .ok (.istore 4, 2) := by decide +kernel
theorem dX3_mouldyBundles_13 : decode cX3_mouldyBundles 13 = .ok (.iload 4, 2) := by decide +kernel
theorem dX3_mouldyBundles_15 : decode cX3_mouldyBundles 15 = .ok (.iload_n 3, 1) := by decide +kernel
theorem dX3_mouldyBundles_16 : decode cX3_mouldyBundles 16 = .ok (.if_icmp .ge 26, 3) := by decide +kernel
theorem dX3_mouldyBundles_19 : decode cX3_mouldyBundles 19 = .ok (.aload_n 2, 1) := by decide +kernel
theorem dX3_mouldyBundles_20 : decode cX3_mouldyBundles 20 = .ok (.iload 4, 2) := by decide +kernel
theorem dX3_mouldyBundles_22 : decode cX3_mouldyBundles 22 = .ok (.aaload, 1) := by decide +kernel
theorem dX3_mouldyBundles_23 : decode cX3_mouldyBundles 23 = .ok (.astore 5, 2) := by decide +kernel
theorem dX3_mouldyBundles_25 : decode cX3_mouldyBundles 25 = .ok (.aload 5, 2) := by decide +kernel
theorem dX3_mouldyBundles_27 : decode cX3_mouldyBundles 27 = .ok (.invokevirtual 72, 3) := by decide +kernel
theorem dX3_mouldyBundles_30 : decode cX3_mouldyBundles 30 = .ok (.ifCond .eq 6, 3) := by decide +kernel
theorem dX3_mouldyBundles_33 : decode cX3_mouldyBundles 33 = .ok (.iinc 1 1, 3) := by decide +kernel
theorem dX3_mouldyBundles_36 : decode cX3_mouldyBundles 36 = .ok (.iinc 4 1, 3) := by decide +kernel
theorem dX3_mouldyBundles_39 : decode cX3_mouldyBundles 39 = .ok (.goto (-26), 3) := by decide +kernel
theorem dX3_mouldyBundles_42 : decode cX3_mouldyBundles 42 = .ok (.iload_n 1, 1) := by decide +kernel
theorem dX3_mouldyBundles_43 : decode cX3_mouldyBundles 43 = .ok (.ireturn, 1) := by decide +kernel
theorem dX3_sumOfWetness_0 : decode cX3_sumOfWetness 0 = .ok (.iconst 0, 1) := by decide +kernel
theorem dX3_sumOfWetness_1 : decode cX3_sumOfWetness 1 = .ok (.istore_n 1, 1) := by decide +kernel
theorem dX3_sumOfWetness_2 : decode cX3_sumOfWetness 2 = .ok (.aload_n 0, 1) := by decide +kernel
theorem dX3_sumOfWetness_3 : decode cX3_sumOfWetness 3 = .ok (.getfield 11, 3) := by decide +kernel
theorem dX3_sumOfWetness_6 : decode cX3_sumOfWetness 6 = .ok (.astore_n 2, 1) := by decide +kernel
theorem dX3_sumOfWetness_7 : decode cX3_sumOfWetness 7 = .ok (.aload_n 2, 1) := by decide +kernel
theorem dX3_sumOfWetness_8 : decode cX3_sumOfWetness 8 = .ok (.arraylength, 1) := by decide +kernel
theorem dX3_sumOfWetness_9 : decode cX3_sumOfWetness 9 = .ok (.istore_n 3, 1) := by decide +kernel
theorem dX3_sumOfWetness_10 : decode cX3_sumOfWetness 10 = .ok (.iconst 0, 1) := by decide +kernel
theorem dX3_sumOfWetness_11 : decode cX3_sumOfWetness 11 = .ok (.istore 4, 2) := by decide +kernel
theorem dX3_sumOfWetness_13 : decode cX3_sumOfWetness 13 = .ok (.iload 4, 2) := by decide +kernel
theorem dX3_sumOfWetness_15 : decode cX3_sumOfWetness 15 = .ok (.iload_n 3, 1) := by decide +kernel
theorem dX3_sumOfWetness_16 : decode cX3_sumOfWetness 16 = .ok (.if_icmp .ge 31, 3) := by decide +kernel
theorem dX3_sumOfWetness_19 : decode cX3_sumOfWetness 19 = .ok (.aload_n 2, 1) := by decide +kernel
theorem dX3_sumOfWetness_20 : decode cX3_sumOfWetness 20 = .ok (.iload 4, 2) := by decide +kernel
theorem dX3_sumOfWetness_22 : decode cX3_sumOfWetness 22 = .ok (.aaload, 1) := by decide +kernel
theorem dX3_sumOfWetness_23 : decode cX3_sumOfWetness 23 = .ok (.astore 5, 2) := by decide +kernel
theorem dX3_sumOfWetness_25 : decode cX3_sumOfWetness 25 = .ok (.aload 5, 2) := by decide +kernel
theorem dX3_sumOfWetness_27 : decode cX3_sumOfWetness 27 = .ok (.invokevirtual 39, 3) := by decide +kernel
theorem dX3_sumOfWetness_30 : decode cX3_sumOfWetness 30 = .ok (.ifCond .eq 11, 3) := by decide +kernel
theorem dX3_sumOfWetness_33 : decode cX3_sumOfWetness 33 = .ok (.iload_n 1, 1) := by decide +kernel
theorem dX3_sumOfWetness_34 : decode cX3_sumOfWetness 34 = .ok (.aload 5, 2) := by decide +kernel
theorem dX3_sumOfWetness_36 : decode cX3_sumOfWetness 36 = .ok (.invokevirtual 75, 3) := by decide +kernel
theorem dX3_sumOfWetness_39 : decode cX3_sumOfWetness 39 = .ok (.iadd, 1) := by decide +kernel
theorem dX3_sumOfWetness_40 : decode cX3_sumOfWetness 40 = .ok (.istore_n 1, 1) := by decide +kernel
theorem dX3_sumOfWetness_41 : decode cX3_sumOfWetness 41 = .ok (.iinc 4 1, 3) := by decide +kernel
theorem dX3_sumOfWetness_44 : decode cX3_sumOfWetness 44 = .ok (.goto (-31), 3) := by decide +kernel
theorem dX3_sumOfWetness_47 : decode cX3_sumOfWetness 47 = .ok (.iload_n 1, 1) := by decide +kernel
theorem dX3_sumOfWetness_48 : decode cX3_sumOfWetness 48 = .ok (.ireturn, 1) := by decide +kernel
theorem dX3_bundlesOf_0 : decode cX3_bundlesOf 0 = .ok (.iconst 0, 1) := by decide +kernel
theorem dX3_bundlesOf_1 : decode cX3_bundlesOf 1 = .ok (.istore_n 2, 1) := by decide +kernel
theorem dX3_bundlesOf_2 : decode cX3_bundlesOf 2 = .ok (.aload_n 0, 1) := by decide +kernel
theorem dX3_bundlesOf_3 : decode cX3_bundlesOf 3 = .ok (.getfield 11, 3) := by decide +kernel
theorem dX3_bundlesOf_6 : decode cX3_bundlesOf 6 = .ok (.astore_n 3, 1) := by decide +kernel
theorem dX3_bundlesOf_7 : decode cX3_bundlesOf 7 = .ok (.aload_n 3, 1) := by decide +kernel
theorem dX3_bundlesOf_8 : decode cX3_bundlesOf 8 = .ok (.arraylength, 1) := by decide +kernel
theorem dX3_bundlesOf_9 : decode cX3_bundlesOf 9 = .ok (.istore 4, 2) := by decide +kernel
theorem dX3_bundlesOf_11 : decode cX3_bundlesOf 11 = .ok (.iconst 0, 1) := by decide +kernel
theorem dX3_bundlesOf_12 : decode cX3_bundlesOf 12 = .ok (.istore 5, 2) := by decide +kernel
theorem dX3_bundlesOf_14 : decode cX3_bundlesOf 14 = .ok (.iload 5, 2) := by decide +kernel
theorem dX3_bundlesOf_16 : decode cX3_bundlesOf 16 = .ok (.iload 4, 2) := by decide +kernel
theorem dX3_bundlesOf_18 : decode cX3_bundlesOf 18 = .ok (.if_icmp .ge 27, 3) := by decide +kernel
theorem dX3_bundlesOf_21 : decode cX3_bundlesOf 21 = .ok (.aload_n 3, 1) := by decide +kernel
theorem dX3_bundlesOf_22 : decode cX3_bundlesOf 22 = .ok (.iload 5, 2) := by decide +kernel
theorem dX3_bundlesOf_24 : decode cX3_bundlesOf 24 = .ok (.aaload, 1) := by decide +kernel
theorem dX3_bundlesOf_25 : decode cX3_bundlesOf 25 = .ok (.astore 6, 2) := by decide +kernel
theorem dX3_bundlesOf_27 : decode cX3_bundlesOf 27 = .ok (.aload 6, 2) := by decide +kernel
theorem dX3_bundlesOf_29 : decode cX3_bundlesOf 29 = .ok (.aload_n 1, 1) := by decide +kernel
theorem dX3_bundlesOf_30 : decode cX3_bundlesOf 30 = .ok (.invokevirtual 79, 3) := by decide +kernel
theorem dX3_bundlesOf_33 : decode cX3_bundlesOf 33 = .ok (.ifCond .eq 6, 3) := by decide +kernel
theorem dX3_bundlesOf_36 : decode cX3_bundlesOf 36 = .ok (.iinc 2 1, 3) := by decide +kernel
theorem dX3_bundlesOf_39 : decode cX3_bundlesOf 39 = .ok (.iinc 5 1, 3) := by decide +kernel
theorem dX3_bundlesOf_42 : decode cX3_bundlesOf 42 = .ok (.goto (-28), 3) := by decide +kernel
theorem dX3_bundlesOf_45 : decode cX3_bundlesOf 45 = .ok (.iload_n 2, 1) := by decide +kernel
theorem dX3_bundlesOf_46 : decode cX3_bundlesOf 46 = .ok (.ireturn, 1) := by decide +kernel
theorem dX3_mouldyBundlesOf_0 : decode cX3_mouldyBundlesOf 0 = .ok (.iconst 0, 1) := by decide +kernel
theorem dX3_mouldyBundlesOf_1 : decode cX3_mouldyBundlesOf 1 = .ok (.istore_n 2, 1) := by decide +kernel
theorem dX3_mouldyBundlesOf_2 : decode cX3_mouldyBundlesOf 2 = .ok (.aload_n 0, 1) := by decide +kernel
theorem dX3_mouldyBundlesOf_3 : decode cX3_mouldyBundlesOf 3 = .ok (.getfield 11, 3) := by decide +kernel
theorem dX3_mouldyBundlesOf_6 : decode cX3_mouldyBundlesOf 6 = .ok (.astore_n 3, 1) := by decide +kernel
theorem dX3_mouldyBundlesOf_7 : decode cX3_mouldyBundlesOf 7 = .ok (.aload_n 3, 1) := by decide +kernel
theorem dX3_mouldyBundlesOf_8 : decode cX3_mouldyBundlesOf 8 = .ok (.arraylength, 1) := by decide +kernel
theorem dX3_mouldyBundlesOf_9 : decode cX3_mouldyBundlesOf 9 = .ok (.istore 4, 2) := by decide +kernel
theorem dX3_mouldyBundlesOf_11 : decode cX3_mouldyBundlesOf 11 = .ok (.iconst 0, 1) := by decide +kernel
theorem dX3_mouldyBundlesOf_12 : decode cX3_mouldyBundlesOf 12 = .ok (.istore 5, 2) := by decide +kernel
theorem dX3_mouldyBundlesOf_14 : decode cX3_mouldyBundlesOf 14 = .ok (.iload 5, 2) := by decide +kernel
theorem dX3_mouldyBundlesOf_16 : decode cX3_mouldyBundlesOf 16 = .ok (.iload 4, 2) := by decide +kernel
theorem dX3_mouldyBundlesOf_18 : decode cX3_mouldyBundlesOf 18 = .ok (.if_icmp .ge 35, 3) := by decide +kernel
theorem dX3_mouldyBundlesOf_21 : decode cX3_mouldyBundlesOf 21 = .ok (.aload_n 3, 1) := by decide +kernel
theorem dX3_mouldyBundlesOf_22 : decode cX3_mouldyBundlesOf 22 = .ok (.iload 5, 2) := by decide +kernel
theorem dX3_mouldyBundlesOf_24 : decode cX3_mouldyBundlesOf 24 = .ok (.aaload, 1) := by decide +kernel
theorem dX3_mouldyBundlesOf_25 : decode cX3_mouldyBundlesOf 25 = .ok (.astore 6, 2) := by decide +kernel
theorem dX3_mouldyBundlesOf_27 : decode cX3_mouldyBundlesOf 27 = .ok (.aload 6, 2) := by decide +kernel
theorem dX3_mouldyBundlesOf_29 : decode cX3_mouldyBundlesOf 29 = .ok (.aload_n 1, 1) := by decide +kernel
theorem dX3_mouldyBundlesOf_30 : decode cX3_mouldyBundlesOf 30 = .ok (.invokevirtual 79, 3) := by decide +kernel
theorem dX3_mouldyBundlesOf_33 : decode cX3_mouldyBundlesOf 33 = .ok (.ifCond .eq 14, 3) := by decide +kernel
theorem dX3_mouldyBundlesOf_36 : decode cX3_mouldyBundlesOf 36 = .ok (.aload 6, 2) := by decide +kernel
theorem dX3_mouldyBundlesOf_38 : decode cX3_mouldyBundlesOf 38 = .ok (.invokevirtual 72, 3) := by decide +kernel
theorem dX3_mouldyBundlesOf_41 : decode cX3_mouldyBundlesOf 41 = .ok (.ifCond .eq 6, 3) := by decide +kernel
theorem dX3_mouldyBundlesOf_44 : decode cX3_mouldyBundlesOf 44 = .ok (.iinc 2 1, 3) := by decide +kernel
theorem dX3_mouldyBundlesOf_47 : decode cX3_mouldyBundlesOf 47 = .ok (.iinc 5 1, 3) := by decide +kernel
theorem dX3_mouldyBundlesOf_50 : decode cX3_mouldyBundlesOf 50 = .ok (.goto (-36), 3) := by decide +kernel
theorem dX3_mouldyBundlesOf_53 : decode cX3_mouldyBundlesOf 53 = .ok (.iload_n 2, 1) := by decide +kernel
theorem dX3_mouldyBundlesOf_54 : decode cX3_mouldyBundlesOf 54 = .ok (.ireturn, 1) := by decide +kernel
theorem dX3_leastCleanWetnessOf_0 : decode cX3_leastCleanWetnessOf 0 = .ok (.iconst (-1), 1) := by decide +kernel
theorem dX3_leastCleanWetnessOf_1 : decode cX3_leastCleanWetnessOf 1 = .ok (.istore_n 2, 1) := by decide +kernel
theorem dX3_leastCleanWetnessOf_2 : decode cX3_leastCleanWetnessOf 2 = .ok (.aload_n 0, 1) := by decide +kernel
theorem dX3_leastCleanWetnessOf_3 : decode cX3_leastCleanWetnessOf 3 = .ok (.getfield 11, 3) := by decide +kernel
theorem dX3_leastCleanWetnessOf_6 : decode cX3_leastCleanWetnessOf 6 = .ok (.astore_n 3, 1) := by decide +kernel
theorem dX3_leastCleanWetnessOf_7 : decode cX3_leastCleanWetnessOf 7 = .ok (.aload_n 3, 1) := by decide +kernel
theorem dX3_leastCleanWetnessOf_8 : decode cX3_leastCleanWetnessOf 8 = .ok (.arraylength, 1) := by decide +kernel
theorem dX3_leastCleanWetnessOf_9 : decode cX3_leastCleanWetnessOf 9 = .ok (.istore 4, 2) := by decide +kernel
theorem dX3_leastCleanWetnessOf_11 : decode cX3_leastCleanWetnessOf 11 = .ok (.iconst 0, 1) := by decide +kernel
theorem dX3_leastCleanWetnessOf_12 : decode cX3_leastCleanWetnessOf 12 = .ok (.istore 5, 2) := by decide +kernel
theorem dX3_leastCleanWetnessOf_14 : decode cX3_leastCleanWetnessOf 14 = .ok (.iload 5, 2) := by decide +kernel
theorem dX3_leastCleanWetnessOf_16 : decode cX3_leastCleanWetnessOf 16 = .ok (.iload 4, 2) := by decide +kernel
theorem dX3_leastCleanWetnessOf_18 : decode cX3_leastCleanWetnessOf 18 = .ok (.if_icmp .ge 51, 3) := by decide +kernel
theorem dX3_leastCleanWetnessOf_21 : decode cX3_leastCleanWetnessOf 21 = .ok (.aload_n 3, 1) := by decide +kernel
theorem dX3_leastCleanWetnessOf_22 : decode cX3_leastCleanWetnessOf 22 = .ok (.iload 5, 2) := by decide +kernel
theorem dX3_leastCleanWetnessOf_24 : decode cX3_leastCleanWetnessOf 24 = .ok (.aaload, 1) := by decide +kernel
theorem dX3_leastCleanWetnessOf_25 : decode cX3_leastCleanWetnessOf 25 = .ok (.astore 6, 2) := by decide +kernel
theorem dX3_leastCleanWetnessOf_27 : decode cX3_leastCleanWetnessOf 27 = .ok (.aload 6, 2) := by decide +kernel
theorem dX3_leastCleanWetnessOf_29 : decode cX3_leastCleanWetnessOf 29 = .ok (.aload_n 1, 1) := by decide +kernel
theorem dX3_leastCleanWetnessOf_30 : decode cX3_leastCleanWetnessOf 30 = .ok (.invokevirtual 79, 3) := by decide +kernel
theorem dX3_leastCleanWetnessOf_33 : decode cX3_leastCleanWetnessOf 33 = .ok (.ifCond .eq 30, 3) := by decide +kernel
theorem dX3_leastCleanWetnessOf_36 : decode cX3_leastCleanWetnessOf 36 = .ok (.aload 6, 2) := by decide +kernel
theorem dX3_leastCleanWetnessOf_38 : decode cX3_leastCleanWetnessOf 38 = .ok (.invokevirtual 72, 3) := by decide +kernel
theorem dX3_leastCleanWetnessOf_41 : decode cX3_leastCleanWetnessOf 41 = .ok (.ifCond .ne 22, 3) := by decide +kernel
theorem dX3_leastCleanWetnessOf_44 : decode cX3_leastCleanWetnessOf 44 = .ok (.iload_n 2, 1) := by decide +kernel
theorem dX3_leastCleanWetnessOf_45 : decode cX3_leastCleanWetnessOf 45 = .ok (.ifCond .lt 12, 3) := by decide +kernel
theorem dX3_leastCleanWetnessOf_48 : decode cX3_leastCleanWetnessOf 48 = .ok (.aload 6, 2) := by decide +kernel
theorem dX3_leastCleanWetnessOf_50 : decode cX3_leastCleanWetnessOf 50 = .ok (.invokevirtual 75, 3) := by decide +kernel
theorem dX3_leastCleanWetnessOf_53 : decode cX3_leastCleanWetnessOf 53 = .ok (.iload_n 2, 1) := by decide +kernel
theorem dX3_leastCleanWetnessOf_54 : decode cX3_leastCleanWetnessOf 54 = .ok (.if_icmp .ge 9, 3) := by decide +kernel
theorem dX3_leastCleanWetnessOf_57 : decode cX3_leastCleanWetnessOf 57 = .ok (.aload 6, 2) := by decide +kernel
theorem dX3_leastCleanWetnessOf_59 : decode cX3_leastCleanWetnessOf 59 = .ok (.invokevirtual 75, 3) := by decide +kernel
theorem dX3_leastCleanWetnessOf_62 : decode cX3_leastCleanWetnessOf 62 = .ok (.istore_n 2, 1) := by decide +kernel
theorem dX3_leastCleanWetnessOf_63 : decode cX3_leastCleanWetnessOf 63 = .ok (.iinc 5 1, 3) := by decide +kernel
theorem dX3_leastCleanWetnessOf_66 : decode cX3_leastCleanWetnessOf 66 = .ok (.goto (-52), 3) := by decide +kernel
theorem dX3_leastCleanWetnessOf_69 : decode cX3_leastCleanWetnessOf 69 = .ok (.iload_n 2, 1) := by decide +kernel
theorem dX3_leastCleanWetnessOf_70 : decode cX3_leastCleanWetnessOf 70 = .ok (.ireturn, 1) := by decide +kernel
theorem dX3_bundlesThatFit_0 : decode cX3_bundlesThatFit 0 = .ok (.iconst 0, 1) := by decide +kernel
theorem dX3_bundlesThatFit_1 : decode cX3_bundlesThatFit 1 = .ok (.istore_n 2, 1) := by decide +kernel
theorem dX3_bundlesThatFit_2 : decode cX3_bundlesThatFit 2 = .ok (.aload_n 0, 1) := by decide +kernel
theorem dX3_bundlesThatFit_3 : decode cX3_bundlesThatFit 3 = .ok (.getfield 11, 3) := by decide +kernel
theorem dX3_bundlesThatFit_6 : decode cX3_bundlesThatFit 6 = .ok (.astore_n 3, 1) := by decide +kernel
theorem dX3_bundlesThatFit_7 : decode cX3_bundlesThatFit 7 = .ok (.aload_n 3, 1) := by decide +kernel
theorem dX3_bundlesThatFit_8 : decode cX3_bundlesThatFit 8 = .ok (.arraylength, 1) := by decide +kernel
theorem dX3_bundlesThatFit_9 : decode cX3_bundlesThatFit 9 = .ok (.istore 4, 2) := by decide +kernel
theorem dX3_bundlesThatFit_11 : decode cX3_bundlesThatFit 11 = .ok (.iconst 0, 1) := by decide +kernel
theorem dX3_bundlesThatFit_12 : decode cX3_bundlesThatFit 12 = .ok (.istore 5, 2) := by decide +kernel
theorem dX3_bundlesThatFit_14 : decode cX3_bundlesThatFit 14 = .ok (.iload 5, 2) := by decide +kernel
theorem dX3_bundlesThatFit_16 : decode cX3_bundlesThatFit 16 = .ok (.iload 4, 2) := by decide +kernel
theorem dX3_bundlesThatFit_18 : decode cX3_bundlesThatFit 18 = .ok (.if_icmp .ge 27, 3) := by decide +kernel
theorem dX3_bundlesThatFit_21 : decode cX3_bundlesThatFit 21 = .ok (.aload_n 3, 1) := by decide +kernel
theorem dX3_bundlesThatFit_22 : decode cX3_bundlesThatFit 22 = .ok (.iload 5, 2) := by decide +kernel
theorem dX3_bundlesThatFit_24 : decode cX3_bundlesThatFit 24 = .ok (.aaload, 1) := by decide +kernel
theorem dX3_bundlesThatFit_25 : decode cX3_bundlesThatFit 25 = .ok (.astore 6, 2) := by decide +kernel
theorem dX3_bundlesThatFit_27 : decode cX3_bundlesThatFit 27 = .ok (.aload 6, 2) := by decide +kernel
theorem dX3_bundlesThatFit_29 : decode cX3_bundlesThatFit 29 = .ok (.aload_n 1, 1) := by decide +kernel
theorem dX3_bundlesThatFit_30 : decode cX3_bundlesThatFit 30 = .ok (.invokevirtual 62, 3) := by decide +kernel
theorem dX3_bundlesThatFit_33 : decode cX3_bundlesThatFit 33 = .ok (.ifCond .eq 6, 3) := by decide +kernel
theorem dX3_bundlesThatFit_36 : decode cX3_bundlesThatFit 36 = .ok (.iinc 2 1, 3) := by decide +kernel
theorem dX3_bundlesThatFit_39 : decode cX3_bundlesThatFit 39 = .ok (.iinc 5 1, 3) := by decide +kernel
theorem dX3_bundlesThatFit_42 : decode cX3_bundlesThatFit 42 = .ok (.goto (-28), 3) := by decide +kernel
theorem dX3_bundlesThatFit_45 : decode cX3_bundlesThatFit 45 = .ok (.iload_n 2, 1) := by decide +kernel
theorem dX3_bundlesThatFit_46 : decode cX3_bundlesThatFit 46 = .ok (.ireturn, 1) := by decide +kernel
theorem dX4_init_0 : decode cX4_init 0 = .ok (.aload_n 0, 1) := by decide +kernel
theorem dX4_init_1 : decode cX4_init 1 = .ok (.invokespecial 1, 3) := by decide +kernel
theorem dX4_init_4 : decode cX4_init 4 = .ok (.aload_n 0, 1) := by decide +kernel
theorem dX4_init_5 : decode cX4_init 5 = .ok (.new 7, 3) := by decide +kernel
theorem dX4_init_8 : decode cX4_init 8 = .ok (.dup, 1) := by decide +kernel
theorem dX4_init_9 : decode cX4_init 9 = .ok (.invokespecial 9, 3) := by decide +kernel
theorem dX4_init_12 : decode cX4_init 12 = .ok (.putfield 10, 3) := by decide +kernel
theorem dX4_init_15 : decode cX4_init 15 = .ok (.aload_n 0, 1) := by decide +kernel
theorem dX4_init_16 : decode cX4_init 16 = .ok (.new 7, 3) := by decide +kernel
theorem dX4_init_19 : decode cX4_init 19 = .ok (.dup, 1) := by decide +kernel
theorem dX4_init_20 : decode cX4_init 20 = .ok (.invokespecial 9, 3) := by decide +kernel
theorem dX4_init_23 : decode cX4_init 23 = .ok (.putfield 16, 3) := by decide +kernel
theorem dX4_init_26 : decode cX4_init 26 = .ok (.aload_n 0, 1) := by decide +kernel
theorem dX4_init_27 : decode cX4_init 27 = .ok (.new 19, 3) := by decide +kernel
theorem dX4_init_30 : decode cX4_init 30 = .ok (.dup, 1) := by decide +kernel
theorem dX4_init_31 : decode cX4_init 31 = .ok (.invokespecial 21, 3) := by decide +kernel
theorem dX4_init_34 : decode cX4_init 34 = .ok (.putfield 22, 3) := by decide +kernel
theorem dX4_init_37 : decode cX4_init 37 = .ok (.aload_n 0, 1) := by decide +kernel
theorem dX4_init_38 : decode cX4_init 38 = .ok (.new 19, 3) := by decide +kernel
theorem dX4_init_41 : decode cX4_init 41 = .ok (.dup, 1) := by decide +kernel
theorem dX4_init_42 : decode cX4_init 42 = .ok (.invokespecial 21, 3) := by decide +kernel
theorem dX4_init_45 : decode cX4_init 45 = .ok (.putfield 26, 3) := by decide +kernel
theorem dX4_init_48 : decode cX4_init 48 = .ok (.aload_n 0, 1) := by decide +kernel
theorem dX4_init_49 : decode cX4_init 49 = .ok (.iconst 0, 1) := by decide +kernel
theorem dX4_init_50 : decode cX4_init 50 = .ok (.putfield 29, 3) := by decide +kernel
theorem dX4_init_53 : decode cX4_init 53 = .ok (.aload_n 0, 1) := by decide +kernel
theorem dX4_init_54 : decode cX4_init 54 = .ok (.iconst 0, 1) := by decide +kernel
theorem dX4_init_55 : decode cX4_init 55 = .ok (.putfield 33, 3) := by decide +kernel
theorem dX4_init_58 : decode cX4_init 58 = .ok (.return_, 1) := by decide +kernel
theorem dX4_herb_0 : decode cX4_herb 0 = .ok (.iload_n 1, 1) := by decide +kernel
theorem dX4_herb_1 : decode cX4_herb 1 = .ok (.iconst 1, 1) := by decide +kernel
theorem dX4_herb_2 : decode cX4_herb 2 = .ok (.bipush 9, 2) := by decide +kernel
theorem dX4_herb_4 : decode cX4_herb 4 = .ok (.invokestatic 36, 3) := by decide +kernel
theorem dX4_herb_7 : decode cX4_herb 7 = .ok (.ifCond .ne 13, 3) := by decide +kernel
theorem dX4_herb_10 : decode cX4_herb 10 = .ok (.new 40, 3) := by decide +kernel
theorem dX4_herb_13 : decode cX4_herb 13 = .ok (.dup, 1) := by decide +kernel
theorem dX4_herb_14 : decode cX4_herb 14 = .ok (.ldc 42, 2) := by decide +kernel
theorem dX4_herb_16 : decode cX4_herb 16 = .ok (.invokespecial 44, 3) := by decide +kernel
theorem dX4_herb_19 : decode cX4_herb 19 = .ok (.athrow, 1) := by decide +kernel
theorem dX4_herb_20 : decode cX4_herb 20 = .ok (.iload_n 2, 1) := by decide +kernel
theorem dX4_herb_21 : decode cX4_herb 21 = .ok (.bipush 20, 2) := by decide +kernel
theorem dX4_herb_23 : decode cX4_herb 23 = .ok (.bipush 90, 2) := by decide +kernel
theorem dX4_herb_25 : decode cX4_herb 25 = .ok (.invokestatic 36, 3) := by decide +kernel
theorem dX4_herb_28 : decode cX4_herb 28 = .ok (.ifCond .ne 13, 3) := by decide +kernel
theorem dX4_herb_31 : decode cX4_herb 31 = .ok (.new 40, 3) := by decide +kernel
theorem dX4_herb_34 : decode cX4_herb 34 = .ok (.dup, 1) := by decide +kernel
theorem dX4_herb_35 : decode cX4_herb 35 = .ok (.ldc 47, 2) := by decide +kernel
theorem dX4_herb_37 : decode cX4_herb 37 = .ok (.invokespecial 44, 3) := by decide +kernel
theorem dX4_herb_40 : decode cX4_herb 40 = .ok (.athrow, 1) := by decide +kernel
theorem dX4_herb_41 : decode cX4_herb 41 = .ok (.aload_n 0, 1) := by decide +kernel
theorem dX4_herb_42 : decode cX4_herb 42 = .ok (.getfield 10, 3) := by decide +kernel
theorem dX4_herb_45 : decode cX4_herb 45 = .ok (.invokevirtual 49, 3) := by decide +kernel
theorem dX4_herb_48 : decode cX4_herb 48 = .ok (.bipush 6, 2) := by decide +kernel
theorem dX4_herb_50 : decode cX4_herb 50 = .ok (.if_icmp .lt 13, 3) := by decide +kernel
theorem dX4_herb_53 : decode cX4_herb 53 = .ok (.new 53, 3) := by decide +kernel
theorem dX4_herb_56 : decode cX4_herb 56 = .ok (.dup, 1) := by decide +kernel
theorem dX4_herb_57 : decode cX4_herb 57 = .ok (.ldc 55, 2) := by decide +kernel
theorem dX4_herb_59 : decode cX4_herb 59 = .ok (.invokespecial 57, 3) := by decide +kernel
theorem dX4_herb_62 : decode cX4_herb 62 = .ok (.athrow, 1) := by decide +kernel
theorem dX4_herb_63 : decode cX4_herb 63 = .ok (.aload_n 0, 1) := by decide +kernel
theorem dX4_herb_64 : decode cX4_herb 64 = .ok (.getfield 10, 3) := by decide +kernel
theorem dX4_herb_67 : decode cX4_herb 67 = .ok (.invokevirtual 49, 3) := by decide +kernel
theorem dX4_herb_70 : decode cX4_herb 70 = .ok (.istore_n 3, 1) := by decide +kernel
theorem dX4_herb_71 : decode cX4_herb 71 = .ok (.aload_n 0, 1) := by decide +kernel
theorem dX4_herb_72 : decode cX4_herb 72 = .ok (.getfield 10, 3) := by decide +kernel
theorem dX4_herb_75 : decode cX4_herb 75 = .ok (.new 58, 3) := by decide +kernel
theorem dX4_herb_78 : decode cX4_herb 78 = .ok (.dup, 1) := by decide +kernel
theorem dX4_herb_79 : decode cX4_herb 79 = .ok (.iload_n 3, 1) := by decide +kernel
theorem dX4_herb_80 : decode cX4_herb 80 = .ok (.iload_n 1, 1) := by decide +kernel
theorem dX4_herb_81 : decode cX4_herb 81 = .ok (.iload_n 2, 1) := by decide +kernel
theorem dX4_herb_82 : decode cX4_herb 82 = .ok (.invokespecial 60, 3) := by decide +kernel
theorem dX4_herb_85 : decode cX4_herb 85 = .ok (.invokevirtual 63, 3) := by decide +kernel
theorem dX4_herb_88 : decode cX4_herb 88 = .ok (.pop, 1) := by decide +kernel
theorem dX4_herb_89 : decode cX4_herb 89 = .ok (.iload_n 3, 1) := by decide +kernel
theorem dX4_herb_90 : decode cX4_herb 90 = .ok (.ireturn, 1) := by decide +kernel
theorem dX4_hang_0 : decode cX4_hang 0 = .ok (.aload_n 0, 1) := by decide +kernel
theorem dX4_hang_1 : decode cX4_hang 1 = .ok (.getfield 22, 3) := by decide +kernel
theorem dX4_hang_4 : decode cX4_hang 4 = .ok (.iload_n 1, 1) := by decide +kernel
theorem dX4_hang_5 : decode cX4_hang 5 = .ok (.iload_n 2, 1) := by decide +kernel
theorem dX4_hang_6 : decode cX4_hang 6 = .ok (.invokevirtual 67, 3) := by decide +kernel
theorem dX4_hang_9 : decode cX4_hang 9 = .ok (.astore 5, 2) := by decide +kernel
theorem dX4_hang_11 : decode cX4_hang 11 = .ok (.aload 5, 2) := by decide +kernel
theorem dX4_hang_13 : decode cX4_hang 13 = .ok (.ifnonnull 13, 3) := by decide +kernel
theorem dX4_hang_16 : decode cX4_hang 16 = .ok (.new 71, 3) := by decide +kernel
theorem dX4_hang_19 : decode cX4_hang 19 = .ok (.dup, 1) := by decide +kernel
theorem dX4_hang_20 : decode cX4_hang 20 = .ok (.ldc 73, 2) := by decide +kernel
theorem dX4_hang_22 : decode cX4_hang 22 = .ok (.invokespecial 75, 3) := by decide +kernel
theorem dX4_hang_25 : decode cX4_hang 25 = .ok (.athrow, 1) := by decide +kernel
theorem dX4_hang_26 : decode cX4_hang 26 = .ok (.aload_n 0, 1) := by decide +kernel
theorem dX4_hang_27 : decode cX4_hang 27 = .ok (.iload_n 3, 1) := by decide +kernel
theorem dX4_hang_28 : decode cX4_hang 28 = .ok (.invokevirtual 76, 3) := by decide +kernel
theorem dX4_hang_31 : decode cX4_hang 31 = .ok (.astore 6, 2) := by decide +kernel
theorem dX4_hang_33 : decode cX4_hang 33 = .ok (.aload 6, 2) := by decide +kernel
theorem dX4_hang_35 : decode cX4_hang 35 = .ok (.ifnonnull 13, 3) := by decide +kernel
theorem dX4_hang_38 : decode cX4_hang 38 = .ok (.new 71, 3) := by decide +kernel
theorem dX4_hang_41 : decode cX4_hang 41 = .ok (.dup, 1) := by decide +kernel
theorem dX4_hang_42 : decode cX4_hang 42 = .ok (.ldc 80, 2) := by decide +kernel
theorem dX4_hang_44 : decode cX4_hang 44 = .ok (.invokespecial 75, 3) := by decide +kernel
theorem dX4_hang_47 : decode cX4_hang 47 = .ok (.athrow, 1) := by decide +kernel
theorem dX4_hang_48 : decode cX4_hang 48 = .ok (.iload 4, 2) := by decide +kernel
theorem dX4_hang_50 : decode cX4_hang 50 = .ok (.iconst 0, 1) := by decide +kernel
theorem dX4_hang_51 : decode cX4_hang 51 = .ok (.bipush 100, 2) := by decide +kernel
theorem dX4_hang_53 : decode cX4_hang 53 = .ok (.invokestatic 36, 3) := by decide +kernel
theorem dX4_hang_56 : decode cX4_hang 56 = .ok (.ifCond .ne 13, 3) := by decide +kernel
theorem dX4_hang_59 : decode cX4_hang 59 = .ok (.new 40, 3) := by decide +kernel
theorem dX4_hang_62 : decode cX4_hang 62 = .ok (.dup, 1) := by decide +kernel
theorem dX4_hang_63 : decode cX4_hang 63 = .ok (.ldc 82, 2) := by decide +kernel
theorem dX4_hang_65 : decode cX4_hang 65 = .ok (.invokespecial 44, 3) := by decide +kernel
theorem dX4_hang_68 : decode cX4_hang 68 = .ok (.athrow, 1) := by decide +kernel
theorem dX4_hang_69 : decode cX4_hang 69 = .ok (.aload 5, 2) := by decide +kernel
theorem dX4_hang_71 : decode cX4_hang 71 = .ok (.invokevirtual 84, 3) := by decide +kernel
theorem dX4_hang_74 : decode cX4_hang 74 = .ok (.ifCond .eq 13, 3) := by decide +kernel
theorem dX4_hang_77 : decode cX4_hang 77 = .ok (.new 53, 3) := by decide +kernel
theorem dX4_hang_80 : decode cX4_hang 80 = .ok (.dup, 1) := by decide +kernel
theorem dX4_hang_81 : decode cX4_hang 81 = .ok (.ldc 90, 2) := by decide +kernel
theorem dX4_hang_83 : decode cX4_hang 83 = .ok (.invokespecial 57, 3) := by decide +kernel
theorem dX4_hang_86 : decode cX4_hang 86 = .ok (.athrow, 1) := by decide +kernel
theorem dX4_hang_87 : decode cX4_hang 87 = .ok (.aload 5, 2) := by decide +kernel
theorem dX4_hang_89 : decode cX4_hang 89 = .ok (.aload 6, 2) := by decide +kernel
theorem dX4_hang_91 : decode cX4_hang 91 = .ok (.iload 4, 2) := by decide +kernel
theorem dX4_hang_93 : decode cX4_hang 93 = .ok (.invokevirtual 92, 3) := by decide +kernel
theorem dX4_hang_96 : decode cX4_hang 96 = .ok (.aload_n 0, 1) := by decide +kernel
theorem dX4_hang_97 : decode cX4_hang 97 = .ok (.getfield 22, 3) := by decide +kernel
theorem dX4_hang_100 : decode cX4_hang 100 = .ok (.invokevirtual 96, 3) := by decide +kernel
theorem dX4_hang_103 : decode cX4_hang 103 = .ok (.ireturn, 1) := by decide +kernel
theorem dX4_take_0 : decode cX4_take 0 = .ok (.aload_n 0, 1) := by decide +kernel
theorem dX4_take_1 : decode cX4_take 1 = .ok (.getfield 22, 3) := by decide +kernel
theorem dX4_take_4 : decode cX4_take 4 = .ok (.iload_n 1, 1) := by decide +kernel
theorem dX4_take_5 : decode cX4_take 5 = .ok (.iload_n 2, 1) := by decide +kernel
theorem dX4_take_6 : decode cX4_take 6 = .ok (.invokevirtual 67, 3) := by decide +kernel
theorem dX4_take_9 : decode cX4_take 9 = .ok (.astore_n 3, 1) := by decide +kernel
theorem dX4_take_10 : decode cX4_take 10 = .ok (.aload_n 3, 1) := by decide +kernel
theorem dX4_take_11 : decode cX4_take 11 = .ok (.ifnonnull 13, 3) := by decide +kernel
theorem dX4_take_14 : decode cX4_take 14 = .ok (.new 71, 3) := by decide +kernel
theorem dX4_take_17 : decode cX4_take 17 = .ok (.dup, 1) := by decide +kernel
theorem dX4_take_18 : decode cX4_take 18 = .ok (.ldc 73, 2) := by decide +kernel
theorem dX4_take_20 : decode cX4_take 20 = .ok (.invokespecial 75, 3) := by decide +kernel
theorem dX4_take_23 : decode cX4_take 23 = .ok (.athrow, 1) := by decide +kernel
theorem dX4_take_24 : decode cX4_take 24 = .ok (.aload_n 3, 1) := by decide +kernel
theorem dX4_take_25 : decode cX4_take 25 = .ok (.invokevirtual 84, 3) := by decide +kernel
theorem dX4_take_28 : decode cX4_take 28 = .ok (.ifCond .ne 13, 3) := by decide +kernel
theorem dX4_take_31 : decode cX4_take 31 = .ok (.new 53, 3) := by decide +kernel
theorem dX4_take_34 : decode cX4_take 34 = .ok (.dup, 1) := by decide +kernel
theorem dX4_take_35 : decode cX4_take 35 = .ok (.ldc 99, 2) := by decide +kernel
theorem dX4_take_37 : decode cX4_take 37 = .ok (.invokespecial 57, 3) := by decide +kernel
theorem dX4_take_40 : decode cX4_take 40 = .ok (.athrow, 1) := by decide +kernel
theorem dX4_take_41 : decode cX4_take 41 = .ok (.aload_n 3, 1) := by decide +kernel
theorem dX4_take_42 : decode cX4_take 42 = .ok (.invokevirtual 101, 3) := by decide +kernel
theorem dX4_take_45 : decode cX4_take 45 = .ok (.istore 4, 2) := by decide +kernel
theorem dX4_take_47 : decode cX4_take 47 = .ok (.aload_n 3, 1) := by decide +kernel
theorem dX4_take_48 : decode cX4_take 48 = .ok (.invokevirtual 104, 3) := by decide +kernel
theorem dX4_take_51 : decode cX4_take 51 = .ok (.iload 4, 2) := by decide +kernel
theorem dX4_take_53 : decode cX4_take 53 = .ok (.ireturn, 1) := by decide +kernel
theorem dX4_move_0 : decode cX4_move 0 = .ok (.aload_n 0, 1) := by decide +kernel
theorem dX4_move_1 : decode cX4_move 1 = .ok (.getfield 22, 3) := by decide +kernel
theorem dX4_move_4 : decode cX4_move 4 = .ok (.iload_n 1, 1) := by decide +kernel
theorem dX4_move_5 : decode cX4_move 5 = .ok (.iload_n 2, 1) := by decide +kernel
theorem dX4_move_6 : decode cX4_move 6 = .ok (.invokevirtual 67, 3) := by decide +kernel
theorem dX4_move_9 : decode cX4_move 9 = .ok (.astore 5, 2) := by decide +kernel
theorem dX4_move_11 : decode cX4_move 11 = .ok (.aload_n 0, 1) := by decide +kernel
theorem dX4_move_12 : decode cX4_move 12 = .ok (.getfield 22, 3) := by decide +kernel
theorem dX4_move_15 : decode cX4_move 15 = .ok (.iload_n 3, 1) := by decide +kernel
theorem dX4_move_16 : decode cX4_move 16 = .ok (.iload 4, 2) := by decide +kernel
theorem dX4_move_18 : decode cX4_move 18 = .ok (.invokevirtual 67, 3) := by decide +kernel
theorem dX4_move_21 : decode cX4_move 21 = .ok (.astore 6, 2) := by decide +kernel
theorem dX4_move_23 : decode cX4_move 23 = .ok (.aload 5, 2) := by decide +kernel
theorem dX4_move_25 : decode cX4_move 25 = .ok (.ifnull 8, 3) := by decide +kernel
theorem dX4_move_28 : decode cX4_move 28 = .ok (.aload 6, 2) := by decide +kernel
theorem dX4_move_30 : decode cX4_move 30 = .ok (.ifnonnull 13, 3) := by decide +kernel
theorem dX4_move_33 : decode cX4_move 33 = .ok (.new 71, 3) := by decide +kernel
theorem dX4_move_36 : decode cX4_move 36 = .ok (.dup, 1) := by decide +kernel
theorem dX4_move_37 : decode cX4_move 37 = .ok (.ldc 73, 2) := by decide +kernel
theorem dX4_move_39 : decode cX4_move 39 = .ok (.invokespecial 75, 3) := by decide +kernel
theorem dX4_move_42 : decode cX4_move 42 = .ok (.athrow, 1) := by decide +kernel
theorem dX4_move_43 : decode cX4_move 43 = .ok (.aload 5, 2) := by decide +kernel
theorem dX4_move_45 : decode cX4_move 45 = .ok (.invokevirtual 84, 3) := by decide +kernel
theorem dX4_move_48 : decode cX4_move 48 = .ok (.ifCond .ne 13, 3) := by decide +kernel
theorem dX4_move_51 : decode cX4_move 51 = .ok (.new 53, 3) := by decide +kernel
theorem dX4_move_54 : decode cX4_move 54 = .ok (.dup, 1) := by decide +kernel
theorem dX4_move_55 : decode cX4_move 55 = .ok (.ldc 107, 2) := by decide +kernel
theorem dX4_move_57 : decode cX4_move 57 = .ok (.invokespecial 57, 3) := by decide +kernel
theorem dX4_move_60 : decode cX4_move 60 = .ok (.athrow, 1) := by decide +kernel
theorem dX4_move_61 : decode cX4_move 61 = .ok (.aload 6, 2) := by decide +kernel
theorem dX4_move_63 : decode cX4_move 63 = .ok (.invokevirtual 84, 3) := by decide +kernel
theorem dX4_move_66 : decode cX4_move 66 = .ok (.ifCond .eq 13, 3) := by decide +kernel
theorem dX4_move_69 : decode cX4_move 69 = .ok (.new 53, 3) := by decide +kernel
theorem dX4_move_72 : decode cX4_move 72 = .ok (.dup, 1) := by decide +kernel
theorem dX4_move_73 : decode cX4_move 73 = .ok (.ldc 109, 2) := by decide +kernel
theorem dX4_move_75 : decode cX4_move 75 = .ok (.invokespecial 57, 3) := by decide +kernel
theorem dX4_move_78 : decode cX4_move 78 = .ok (.athrow, 1) := by decide +kernel
theorem dX4_move_79 : decode cX4_move 79 = .ok (.aload 6, 2) := by decide +kernel
theorem dX4_move_81 : decode cX4_move 81 = .ok (.aload 5, 2) := by decide +kernel
theorem dX4_move_83 : decode cX4_move 83 = .ok (.invokevirtual 111, 3) := by decide +kernel
theorem dX4_move_86 : decode cX4_move 86 = .ok (.aload 5, 2) := by decide +kernel
theorem dX4_move_88 : decode cX4_move 88 = .ok (.invokevirtual 104, 3) := by decide +kernel
theorem dX4_move_91 : decode cX4_move 91 = .ok (.aload 6, 2) := by decide +kernel
theorem dX4_move_93 : decode cX4_move 93 = .ok (.invokevirtual 115, 3) := by decide +kernel
theorem dX4_move_96 : decode cX4_move 96 = .ok (.ireturn, 1) := by decide +kernel
theorem dX4_turn_0 : decode cX4_turn 0 = .ok (.iload_n 1, 1) := by decide +kernel
theorem dX4_turn_1 : decode cX4_turn 1 = .ok (.iconst 0, 1) := by decide +kernel
theorem dX4_turn_2 : decode cX4_turn 2 = .ok (.iconst 4, 1) := by decide +kernel
theorem dX4_turn_3 : decode cX4_turn 3 = .ok (.invokestatic 36, 3) := by decide +kernel
theorem dX4_turn_6 : decode cX4_turn 6 = .ok (.ifCond .ne 13, 3) := by decide +kernel
theorem dX4_turn_9 : decode cX4_turn 9 = .ok (.new 71, 3) := by decide +kernel
theorem dX4_turn_12 : decode cX4_turn 12 = .ok (.dup, 1) := by decide +kernel
theorem dX4_turn_13 : decode cX4_turn 13 = .ok (.ldc 118, 2) := by decide +kernel
theorem dX4_turn_15 : decode cX4_turn 15 = .ok (.invokespecial 75, 3) := by decide +kernel
theorem dX4_turn_18 : decode cX4_turn 18 = .ok (.athrow, 1) := by decide +kernel
theorem dX4_turn_19 : decode cX4_turn 19 = .ok (.aload_n 0, 1) := by decide +kernel
theorem dX4_turn_20 : decode cX4_turn 20 = .ok (.getfield 22, 3) := by decide +kernel
theorem dX4_turn_23 : decode cX4_turn 23 = .ok (.iload_n 1, 1) := by decide +kernel
theorem dX4_turn_24 : decode cX4_turn 24 = .ok (.invokevirtual 120, 3) := by decide +kernel
theorem dX4_turn_27 : decode cX4_turn 27 = .ok (.ireturn, 1) := by decide +kernel
theorem dX4_setWindow_0 : decode cX4_setWindow 0 = .ok (.iload_n 1, 1) := by decide +kernel
theorem dX4_setWindow_1 : decode cX4_setWindow 1 = .ok (.iconst 0, 1) := by decide +kernel
theorem dX4_setWindow_2 : decode cX4_setWindow 2 = .ok (.iconst 3, 1) := by decide +kernel
theorem dX4_setWindow_3 : decode cX4_setWindow 3 = .ok (.invokestatic 36, 3) := by decide +kernel
theorem dX4_setWindow_6 : decode cX4_setWindow 6 = .ok (.ifCond .ne 13, 3) := by decide +kernel
theorem dX4_setWindow_9 : decode cX4_setWindow 9 = .ok (.new 40, 3) := by decide +kernel
theorem dX4_setWindow_12 : decode cX4_setWindow 12 = .ok (.dup, 1) := by decide +kernel
theorem dX4_setWindow_13 : decode cX4_setWindow 13 = .ok (.ldc 124, 2) := by decide +kernel
theorem dX4_setWindow_15 : decode cX4_setWindow 15 = .ok (.invokespecial 44, 3) := by decide +kernel
theorem dX4_setWindow_18 : decode cX4_setWindow 18 = .ok (.athrow, 1) := by decide +kernel
theorem dX4_setWindow_19 : decode cX4_setWindow 19 = .ok (.aload_n 0, 1) := by decide +kernel
theorem dX4_setWindow_20 : decode cX4_setWindow 20 = .ok (.getfield 29, 3) := by decide +kernel
theorem dX4_setWindow_23 : decode cX4_setWindow 23 = .ok (.istore_n 2, 1) := by decide +kernel
theorem dX4_setWindow_24 : decode cX4_setWindow 24 = .ok (.aload_n 0, 1) := by decide +kernel
theorem dX4_setWindow_25 : decode cX4_setWindow 25 = .ok (.iload_n 1, 1) := by decide +kernel
theorem dX4_setWindow_26 : decode cX4_setWindow 26 = .ok (.putfield 29, 3) := by decide +kernel
theorem dX4_setWindow_29 : decode cX4_setWindow 29 = .ok (.iload_n 2, 1) := by decide +kernel
theorem dX4_setWindow_30 : decode cX4_setWindow 30 = .ok (.ireturn, 1) := by decide +kernel
theorem dX4_order_0 : decode cX4_order 0 = .ok (.aload_n 0, 1) := by decide +kernel
theorem dX4_order_1 : decode cX4_order 1 = .ok (.iload_n 1, 1) := by decide +kernel
theorem dX4_order_2 : decode cX4_order 2 = .ok (.invokevirtual 76, 3) := by decide +kernel
theorem dX4_order_5 : decode cX4_order 5 = .ok (.astore 4, 2) := by decide +kernel
theorem dX4_order_7 : decode cX4_order 7 = .ok (.aload 4, 2) := by decide +kernel
theorem dX4_order_9 : decode cX4_order 9 = .ok (.ifnonnull 13, 3) := by decide +kernel
theorem dX4_order_12 : decode cX4_order 12 = .ok (.new 71, 3) := by decide +kernel
theorem dX4_order_15 : decode cX4_order 15 = .ok (.dup, 1) := by decide +kernel
theorem dX4_order_16 : decode cX4_order 16 = .ok (.ldc 80, 2) := by decide +kernel
theorem dX4_order_18 : decode cX4_order 18 = .ok (.invokespecial 75, 3) := by decide +kernel
theorem dX4_order_21 : decode cX4_order 21 = .ok (.athrow, 1) := by decide +kernel
theorem dX4_order_22 : decode cX4_order 22 = .ok (.iload_n 2, 1) := by decide +kernel
theorem dX4_order_23 : decode cX4_order 23 = .ok (.iconst 1, 1) := by decide +kernel
theorem dX4_order_24 : decode cX4_order 24 = .ok (.bipush 9, 2) := by decide +kernel
theorem dX4_order_26 : decode cX4_order 26 = .ok (.invokestatic 36, 3) := by decide +kernel
theorem dX4_order_29 : decode cX4_order 29 = .ok (.ifCond .ne 13, 3) := by decide +kernel
theorem dX4_order_32 : decode cX4_order 32 = .ok (.new 40, 3) := by decide +kernel
theorem dX4_order_35 : decode cX4_order 35 = .ok (.dup, 1) := by decide +kernel
theorem dX4_order_36 : decode cX4_order 36 = .ok (.ldc 126, 2) := by decide +kernel
theorem dX4_order_38 : decode cX4_order 38 = .ok (.invokespecial 44, 3) := by decide +kernel
theorem dX4_order_41 : decode cX4_order 41 = .ok (.athrow, 1) := by decide +kernel
theorem dX4_order_42 : decode cX4_order 42 = .ok (.iload_n 3, 1) := by decide +kernel
theorem dX4_order_43 : decode cX4_order 43 = .ok (.iconst 0, 1) := by decide +kernel
theorem dX4_order_44 : decode cX4_order 44 = .ok (.bipush 60, 2) := by decide +kernel
theorem dX4_order_46 : decode cX4_order 46 = .ok (.invokestatic 36, 3) := by decide +kernel
theorem dX4_order_49 : decode cX4_order 49 = .ok (.ifCond .ne 13, 3) := by decide +kernel
theorem dX4_order_52 : decode cX4_order 52 = .ok (.new 40, 3) := by decide +kernel
theorem dX4_order_55 : decode cX4_order 55 = .ok (.dup, 1) := by decide +kernel
theorem dX4_order_56 : decode cX4_order 56 = .ok (.ldc 128, 2) := by decide +kernel
theorem dX4_order_58 : decode cX4_order 58 = .ok (.invokespecial 44, 3) := by decide +kernel
theorem dX4_order_61 : decode cX4_order 61 = .ok (.athrow, 1) := by decide +kernel
theorem dX4_order_62 : decode cX4_order 62 = .ok (.aload_n 0, 1) := by decide +kernel
theorem dX4_order_63 : decode cX4_order 63 = .ok (.getfield 16, 3) := by decide +kernel
theorem dX4_order_66 : decode cX4_order 66 = .ok (.invokevirtual 49, 3) := by decide +kernel
theorem dX4_order_69 : decode cX4_order 69 = .ok (.bipush 6, 2) := by decide +kernel
theorem dX4_order_71 : decode cX4_order 71 = .ok (.if_icmp .lt 13, 3) := by decide +kernel
theorem dX4_order_74 : decode cX4_order 74 = .ok (.new 53, 3) := by decide +kernel
theorem dX4_order_77 : decode cX4_order 77 = .ok (.dup, 1) := by decide +kernel
theorem dX4_order_78 : decode cX4_order 78 = .ok (.ldc 130, 2) := by decide +kernel
theorem dX4_order_80 : decode cX4_order 80 = .ok (.invokespecial 57, 3) := by decide +kernel
theorem dX4_order_83 : decode cX4_order 83 = .ok (.athrow, 1) := by decide +kernel
theorem dX4_order_84 : decode cX4_order 84 = .ok (.aload_n 0, 1) := by decide +kernel
theorem dX4_order_85 : decode cX4_order 85 = .ok (.getfield 16, 3) := by decide +kernel
theorem dX4_order_88 : decode cX4_order 88 = .ok (.invokevirtual 49, 3) := by decide +kernel
theorem dX4_order_91 : decode cX4_order 91 = .ok (.istore 5, 2) := by decide +kernel
theorem dX4_order_93 : decode cX4_order 93 = .ok (.aload_n 0, 1) := by decide +kernel
theorem dX4_order_94 : decode cX4_order 94 = .ok (.getfield 16, 3) := by decide +kernel
theorem dX4_order_97 : decode cX4_order 97 = .ok (.new 132, 3) := by decide +kernel
theorem dX4_order_100 : decode cX4_order 100 = .ok (.dup, 1) := by decide +kernel
theorem dX4_order_101 : decode cX4_order 101 = .ok (.aload 4, 2) := by decide +kernel
theorem dX4_order_103 : decode cX4_order 103 = .ok (.iload_n 2, 1) := by decide +kernel
theorem dX4_order_104 : decode cX4_order 104 = .ok (.iload_n 3, 1) := by decide +kernel
theorem dX4_order_105 : decode cX4_order 105 = .ok (.invokespecial 134, 3) := by decide +kernel
theorem dX4_order_108 : decode cX4_order 108 = .ok (.invokevirtual 63, 3) := by decide +kernel
theorem dX4_order_111 : decode cX4_order 111 = .ok (.pop, 1) := by decide +kernel
theorem dX4_order_112 : decode cX4_order 112 = .ok (.iload 5, 2) := by decide +kernel
theorem dX4_order_114 : decode cX4_order 114 = .ok (.ireturn, 1) := by decide +kernel
theorem dX4_fill_0 : decode cX4_fill 0 = .ok (.iconst 0, 1) := by decide +kernel
theorem dX4_fill_1 : decode cX4_fill 1 = .ok (.istore_n 1, 1) := by decide +kernel
theorem dX4_fill_2 : decode cX4_fill 2 = .ok (.iconst 0, 1) := by decide +kernel
theorem dX4_fill_3 : decode cX4_fill 3 = .ok (.istore_n 2, 1) := by decide +kernel
theorem dX4_fill_4 : decode cX4_fill 4 = .ok (.iload_n 2, 1) := by decide +kernel
theorem dX4_fill_5 : decode cX4_fill 5 = .ok (.aload_n 0, 1) := by decide +kernel
theorem dX4_fill_6 : decode cX4_fill 6 = .ok (.getfield 16, 3) := by decide +kernel
theorem dX4_fill_9 : decode cX4_fill 9 = .ok (.invokevirtual 49, 3) := by decide +kernel
theorem dX4_fill_12 : decode cX4_fill 12 = .ok (.if_icmp .ge 30, 3) := by decide +kernel
theorem dX4_fill_15 : decode cX4_fill 15 = .ok (.iload_n 1, 1) := by decide +kernel
theorem dX4_fill_16 : decode cX4_fill 16 = .ok (.aload_n 0, 1) := by decide +kernel
theorem dX4_fill_17 : decode cX4_fill 17 = .ok (.getfield 22, 3) := by decide +kernel
theorem dX4_fill_20 : decode cX4_fill 20 = .ok (.aload_n 0, 1) := by decide +kernel
theorem dX4_fill_21 : decode cX4_fill 21 = .ok (.getfield 16, 3) := by decide +kernel
theorem dX4_fill_24 : decode cX4_fill 24 = .ok (.iload_n 2, 1) := by decide +kernel
theorem dX4_fill_25 : decode cX4_fill 25 = .ok (.invokevirtual 137, 3) := by decide +kernel
theorem dX4_fill_28 : decode cX4_fill 28 = .ok (.checkcast 132, 3) := by decide +kernel
theorem dX4_fill_31 : decode cX4_fill 31 = .ok (.invokevirtual 141, 3) := by decide +kernel
theorem dX4_fill_34 : decode cX4_fill 34 = .ok (.iadd, 1) := by decide +kernel
theorem dX4_fill_35 : decode cX4_fill 35 = .ok (.istore_n 1, 1) := by decide +kernel
theorem dX4_fill_36 : decode cX4_fill 36 = .ok (.iinc 2 1, 3) := by decide +kernel
theorem dX4_fill_39 : decode cX4_fill 39 = .ok (.goto (-35), 3) := by decide +kernel
theorem dX4_fill_42 : decode cX4_fill 42 = .ok (.iload_n 1, 1) := by decide +kernel
theorem dX4_fill_43 : decode cX4_fill 43 = .ok (.ireturn, 1) := by decide +kernel
theorem dX4_pass_0 : decode cX4_pass 0 = .ok (.iload_n 1, 1) := by decide +kernel
theorem dX4_pass_1 : decode cX4_pass 1 = .ok (.iconst 1, 1) := by decide +kernel
theorem dX4_pass_2 : decode cX4_pass 2 = .ok (.bipush 60, 2) := by decide +kernel
theorem dX4_pass_4 : decode cX4_pass 4 = .ok (.invokestatic 36, 3) := by decide +kernel
theorem dX4_pass_7 : decode cX4_pass 7 = .ok (.ifCond .ne 13, 3) := by decide +kernel
theorem dX4_pass_10 : decode cX4_pass 10 = .ok (.new 40, 3) := by decide +kernel
theorem dX4_pass_13 : decode cX4_pass 13 = .ok (.dup, 1) := by decide +kernel
theorem dX4_pass_14 : decode cX4_pass 14 = .ok (.ldc 145, 2) := by decide +kernel
theorem dX4_pass_16 : decode cX4_pass 16 = .ok (.invokespecial 44, 3) := by decide +kernel
theorem dX4_pass_19 : decode cX4_pass 19 = .ok (.athrow, 1) := by decide +kernel
theorem dX4_pass_20 : decode cX4_pass 20 = .ok (.iload_n 2, 1) := by decide +kernel
theorem dX4_pass_21 : decode cX4_pass 21 = .ok (.iconst 0, 1) := by decide +kernel
theorem dX4_pass_22 : decode cX4_pass 22 = .ok (.bipush 9, 2) := by decide +kernel
theorem dX4_pass_24 : decode cX4_pass 24 = .ok (.invokestatic 36, 3) := by decide +kernel
theorem dX4_pass_27 : decode cX4_pass 27 = .ok (.ifCond .ne 13, 3) := by decide +kernel
theorem dX4_pass_30 : decode cX4_pass 30 = .ok (.new 40, 3) := by decide +kernel
theorem dX4_pass_33 : decode cX4_pass 33 = .ok (.dup, 1) := by decide +kernel
theorem dX4_pass_34 : decode cX4_pass 34 = .ok (.ldc 147, 2) := by decide +kernel
theorem dX4_pass_36 : decode cX4_pass 36 = .ok (.invokespecial 44, 3) := by decide +kernel
theorem dX4_pass_39 : decode cX4_pass 39 = .ok (.athrow, 1) := by decide +kernel
theorem dX4_pass_40 : decode cX4_pass 40 = .ok (.aload_n 0, 1) := by decide +kernel
theorem dX4_pass_41 : decode cX4_pass 41 = .ok (.getfield 22, 3) := by decide +kernel
theorem dX4_pass_44 : decode cX4_pass 44 = .ok (.iload_n 1, 1) := by decide +kernel
theorem dX4_pass_45 : decode cX4_pass 45 = .ok (.aload_n 0, 1) := by decide +kernel
theorem dX4_pass_46 : decode cX4_pass 46 = .ok (.getfield 29, 3) := by decide +kernel
theorem dX4_pass_49 : decode cX4_pass 49 = .ok (.iload_n 2, 1) := by decide +kernel
theorem dX4_pass_50 : decode cX4_pass 50 = .ok (.invokevirtual 149, 3) := by decide +kernel
theorem dX4_pass_53 : decode cX4_pass 53 = .ok (.aload_n 0, 1) := by decide +kernel
theorem dX4_pass_54 : decode cX4_pass 54 = .ok (.dup, 1) := by decide +kernel
theorem dX4_pass_55 : decode cX4_pass 55 = .ok (.getfield 33, 3) := by decide +kernel
theorem dX4_pass_58 : decode cX4_pass 58 = .ok (.iload_n 1, 1) := by decide +kernel
theorem dX4_pass_59 : decode cX4_pass 59 = .ok (.iadd, 1) := by decide +kernel
theorem dX4_pass_60 : decode cX4_pass 60 = .ok (.putfield 33, 3) := by decide +kernel
theorem dX4_pass_63 : decode cX4_pass 63 = .ok (.aload_n 0, 1) := by decide +kernel
theorem dX4_pass_64 : decode cX4_pass 64 = .ok (.getfield 22, 3) := by decide +kernel
theorem dX4_pass_67 : decode cX4_pass 67 = .ok (.invokevirtual 152, 3) := by decide +kernel
theorem dX4_pass_70 : decode cX4_pass 70 = .ok (.ireturn, 1) := by decide +kernel
theorem dX4_told_0 : decode cX4_told 0 = .ok (.aload_n 0, 1) := by decide +kernel
theorem dX4_told_1 : decode cX4_told 1 = .ok (.getfield 22, 3) := by decide +kernel
theorem dX4_told_4 : decode cX4_told 4 = .ok (.iload_n 1, 1) := by decide +kernel
theorem dX4_told_5 : decode cX4_told 5 = .ok (.iload_n 2, 1) := by decide +kernel
theorem dX4_told_6 : decode cX4_told 6 = .ok (.invokevirtual 67, 3) := by decide +kernel
theorem dX4_told_9 : decode cX4_told 9 = .ok (.astore 4, 2) := by decide +kernel
theorem dX4_told_11 : decode cX4_told 11 = .ok (.aload 4, 2) := by decide +kernel
theorem dX4_told_13 : decode cX4_told 13 = .ok (.ifnonnull 13, 3) := by decide +kernel
theorem dX4_told_16 : decode cX4_told 16 = .ok (.new 71, 3) := by decide +kernel
theorem dX4_told_19 : decode cX4_told 19 = .ok (.dup, 1) := by decide +kernel
theorem dX4_told_20 : decode cX4_told 20 = .ok (.ldc 73, 2) := by decide +kernel
theorem dX4_told_22 : decode cX4_told 22 = .ok (.invokespecial 75, 3) := by decide +kernel
theorem dX4_told_25 : decode cX4_told 25 = .ok (.athrow, 1) := by decide +kernel
theorem dX4_told_26 : decode cX4_told 26 = .ok (.iload_n 3, 1) := by decide +kernel
theorem dX4_told_27 : decode cX4_told 27 = .ok (.iconst 0, 1) := by decide +kernel
theorem dX4_told_28 : decode cX4_told 28 = .ok (.bipush 7, 2) := by decide +kernel
theorem dX4_told_30 : decode cX4_told 30 = .ok (.invokestatic 36, 3) := by decide +kernel
theorem dX4_told_33 : decode cX4_told 33 = .ok (.ifCond .ne 13, 3) := by decide +kernel
theorem dX4_told_36 : decode cX4_told 36 = .ok (.new 71, 3) := by decide +kernel
theorem dX4_told_39 : decode cX4_told 39 = .ok (.dup, 1) := by decide +kernel
theorem dX4_told_40 : decode cX4_told 40 = .ok (.ldc 155, 2) := by decide +kernel
theorem dX4_told_42 : decode cX4_told 42 = .ok (.invokespecial 75, 3) := by decide +kernel
theorem dX4_told_45 : decode cX4_told 45 = .ok (.athrow, 1) := by decide +kernel
theorem dX4_told_46 : decode cX4_told 46 = .ok (.aload 4, 2) := by decide +kernel
theorem dX4_told_48 : decode cX4_told 48 = .ok (.iload_n 3, 1) := by decide +kernel
theorem dX4_told_49 : decode cX4_told 49 = .ok (.invokevirtual 157, 3) := by decide +kernel
theorem dX4_told_52 : decode cX4_told 52 = .ok (.ireturn, 1) := by decide +kernel
theorem dX4_about_0 : decode cX4_about 0 = .ok (.aload_n 0, 1) := by decide +kernel
theorem dX4_about_1 : decode cX4_about 1 = .ok (.iload_n 1, 1) := by decide +kernel
theorem dX4_about_2 : decode cX4_about 2 = .ok (.invokevirtual 76, 3) := by decide +kernel
theorem dX4_about_5 : decode cX4_about 5 = .ok (.astore_n 3, 1) := by decide +kernel
theorem dX4_about_6 : decode cX4_about 6 = .ok (.aload_n 3, 1) := by decide +kernel
theorem dX4_about_7 : decode cX4_about 7 = .ok (.ifnonnull 13, 3) := by decide +kernel
theorem dX4_about_10 : decode cX4_about 10 = .ok (.new 71, 3) := by decide +kernel
theorem dX4_about_13 : decode cX4_about 13 = .ok (.dup, 1) := by decide +kernel
theorem dX4_about_14 : decode cX4_about 14 = .ok (.ldc 80, 2) := by decide +kernel
theorem dX4_about_16 : decode cX4_about 16 = .ok (.invokespecial 75, 3) := by decide +kernel
theorem dX4_about_19 : decode cX4_about 19 = .ok (.athrow, 1) := by decide +kernel
theorem dX4_about_20 : decode cX4_about 20 = .ok (.iload_n 2, 1) := by decide +kernel
theorem dX4_about_21 : decode cX4_about 21 = .ok (.tableswitch 72 0 4 #[35, 40, 45, 54, 63], 35) := by decide +kernel
theorem dX4_about_56 : decode cX4_about 56 = .ok (.aload_n 3, 1) := by decide +kernel
theorem dX4_about_57 : decode cX4_about 57 = .ok (.getfield 160, 3) := by decide +kernel
theorem dX4_about_60 : decode cX4_about 60 = .ok (.ireturn, 1) := by decide +kernel
theorem dX4_about_61 : decode cX4_about 61 = .ok (.aload_n 3, 1) := by decide +kernel
theorem dX4_about_62 : decode cX4_about 62 = .ok (.getfield 163, 3) := by decide +kernel
theorem dX4_about_65 : decode cX4_about 65 = .ok (.ireturn, 1) := by decide +kernel
theorem dX4_about_66 : decode cX4_about 66 = .ok (.aload_n 0, 1) := by decide +kernel
theorem dX4_about_67 : decode cX4_about 67 = .ok (.getfield 22, 3) := by decide +kernel
theorem dX4_about_70 : decode cX4_about 70 = .ok (.aload_n 3, 1) := by decide +kernel
theorem dX4_about_71 : decode cX4_about 71 = .ok (.invokevirtual 166, 3) := by decide +kernel
theorem dX4_about_74 : decode cX4_about 74 = .ok (.ireturn, 1) := by decide +kernel
theorem dX4_about_75 : decode cX4_about 75 = .ok (.aload_n 0, 1) := by decide +kernel
theorem dX4_about_76 : decode cX4_about 76 = .ok (.getfield 22, 3) := by decide +kernel
theorem dX4_about_79 : decode cX4_about 79 = .ok (.aload_n 3, 1) := by decide +kernel
theorem dX4_about_80 : decode cX4_about 80 = .ok (.invokevirtual 170, 3) := by decide +kernel
theorem dX4_about_83 : decode cX4_about 83 = .ok (.ireturn, 1) := by decide +kernel
theorem dX4_about_84 : decode cX4_about 84 = .ok (.aload_n 0, 1) := by decide +kernel
theorem dX4_about_85 : decode cX4_about 85 = .ok (.getfield 22, 3) := by decide +kernel
theorem dX4_about_88 : decode cX4_about 88 = .ok (.aload_n 3, 1) := by decide +kernel
theorem dX4_about_89 : decode cX4_about 89 = .ok (.invokevirtual 173, 3) := by decide +kernel
theorem dX4_about_92 : decode cX4_about 92 = .ok (.ireturn, 1) := by decide +kernel
theorem dX4_about_93 : decode cX4_about 93 = .ok (.new 71, 3) := by decide +kernel
theorem dX4_about_96 : decode cX4_about 96 = .ok (.dup, 1) := by decide +kernel
theorem dX4_about_97 : decode cX4_about 97 = .ok (.ldc 176, 2) := by decide +kernel
theorem dX4_about_99 : decode cX4_about 99 = .ok (.invokespecial 75, 3) := by decide +kernel
theorem dX4_about_102 : decode cX4_about 102 = .ok (.athrow, 1) := by decide +kernel
theorem dX4_asked_0 : decode cX4_asked 0 = .ok (.iload_n 1, 1) := by decide +kernel
theorem dX4_asked_1 : decode cX4_asked 1 = .ok (.ifCond .lt 14, 3) := by decide +kernel
theorem dX4_asked_4 : decode cX4_asked 4 = .ok (.iload_n 1, 1) := by decide +kernel
theorem dX4_asked_5 : decode cX4_asked 5 = .ok (.aload_n 0, 1) := by decide +kernel
theorem dX4_asked_6 : decode cX4_asked 6 = .ok (.getfield 16, 3) := by decide +kernel
theorem dX4_asked_9 : decode cX4_asked 9 = .ok (.invokevirtual 49, 3) := by decide +kernel
theorem dX4_asked_12 : decode cX4_asked 12 = .ok (.if_icmp .lt 13, 3) := by decide +kernel
theorem dX4_asked_15 : decode cX4_asked 15 = .ok (.new 71, 3) := by decide +kernel
theorem dX4_asked_18 : decode cX4_asked 18 = .ok (.dup, 1) := by decide +kernel
theorem dX4_asked_19 : decode cX4_asked 19 = .ok (.ldc 178, 2) := by decide +kernel
theorem dX4_asked_21 : decode cX4_asked 21 = .ok (.invokespecial 75, 3) := by decide +kernel
theorem dX4_asked_24 : decode cX4_asked 24 = .ok (.athrow, 1) := by decide +kernel
theorem dX4_asked_25 : decode cX4_asked 25 = .ok (.aload_n 0, 1) := by decide +kernel
theorem dX4_asked_26 : decode cX4_asked 26 = .ok (.getfield 16, 3) := by decide +kernel
theorem dX4_asked_29 : decode cX4_asked 29 = .ok (.iload_n 1, 1) := by decide +kernel
theorem dX4_asked_30 : decode cX4_asked 30 = .ok (.invokevirtual 137, 3) := by decide +kernel
theorem dX4_asked_33 : decode cX4_asked 33 = .ok (.checkcast 132, 3) := by decide +kernel
theorem dX4_asked_36 : decode cX4_asked 36 = .ok (.astore_n 3, 1) := by decide +kernel
theorem dX4_asked_37 : decode cX4_asked 37 = .ok (.iload_n 2, 1) := by decide +kernel
theorem dX4_asked_38 : decode cX4_asked 38 = .ok (.tableswitch 66 0 4 #[34, 42, 47, 52, 57], 34) := by decide +kernel
theorem dX4_asked_72 : decode cX4_asked 72 = .ok (.aload_n 3, 1) := by decide +kernel
theorem dX4_asked_73 : decode cX4_asked 73 = .ok (.getfield 180, 3) := by decide +kernel
theorem dX4_asked_76 : decode cX4_asked 76 = .ok (.getfield 184, 3) := by decide +kernel
theorem dX4_asked_79 : decode cX4_asked 79 = .ok (.ireturn, 1) := by decide +kernel
theorem dX4_asked_80 : decode cX4_asked 80 = .ok (.aload_n 3, 1) := by decide +kernel
theorem dX4_asked_81 : decode cX4_asked 81 = .ok (.getfield 187, 3) := by decide +kernel
theorem dX4_asked_84 : decode cX4_asked 84 = .ok (.ireturn, 1) := by decide +kernel
theorem dX4_asked_85 : decode cX4_asked 85 = .ok (.aload_n 3, 1) := by decide +kernel
theorem dX4_asked_86 : decode cX4_asked 86 = .ok (.getfield 190, 3) := by decide +kernel
theorem dX4_asked_89 : decode cX4_asked 89 = .ok (.ireturn, 1) := by decide +kernel
theorem dX4_asked_90 : decode cX4_asked 90 = .ok (.aload_n 3, 1) := by decide +kernel
theorem dX4_asked_91 : decode cX4_asked 91 = .ok (.getfield 193, 3) := by decide +kernel
theorem dX4_asked_94 : decode cX4_asked 94 = .ok (.ireturn, 1) := by decide +kernel
theorem dX4_asked_95 : decode cX4_asked 95 = .ok (.aload_n 0, 1) := by decide +kernel
theorem dX4_asked_96 : decode cX4_asked 96 = .ok (.getfield 22, 3) := by decide +kernel
theorem dX4_asked_99 : decode cX4_asked 99 = .ok (.aload_n 3, 1) := by decide +kernel
theorem dX4_asked_100 : decode cX4_asked 100 = .ok (.invokevirtual 196, 3) := by decide +kernel
theorem dX4_asked_103 : decode cX4_asked 103 = .ok (.ireturn, 1) := by decide +kernel
theorem dX4_asked_104 : decode cX4_asked 104 = .ok (.new 71, 3) := by decide +kernel
theorem dX4_asked_107 : decode cX4_asked 107 = .ok (.dup, 1) := by decide +kernel
theorem dX4_asked_108 : decode cX4_asked 108 = .ok (.ldc 176, 2) := by decide +kernel
theorem dX4_asked_110 : decode cX4_asked 110 = .ok (.invokespecial 75, 3) := by decide +kernel
theorem dX4_asked_113 : decode cX4_asked 113 = .ok (.athrow, 1) := by decide +kernel
theorem dX4_count_0 : decode cX4_count 0 = .ok (.iload_n 1, 1) := by decide +kernel
theorem dX4_count_1 : decode cX4_count 1 = .ok (.tableswitch 111 0 8 #[51, 56, 64, 72, 80, 88, 93, 98, 103], 51) := by decide +kernel
theorem dX4_count_52 : decode cX4_count 52 = .ok (.aload_n 0, 1) := by decide +kernel
theorem dX4_count_53 : decode cX4_count 53 = .ok (.getfield 33, 3) := by decide +kernel
theorem dX4_count_56 : decode cX4_count 56 = .ok (.ireturn, 1) := by decide +kernel
theorem dX4_count_57 : decode cX4_count 57 = .ok (.aload_n 0, 1) := by decide +kernel
theorem dX4_count_58 : decode cX4_count 58 = .ok (.getfield 10, 3) := by decide +kernel
theorem dX4_count_61 : decode cX4_count 61 = .ok (.invokevirtual 49, 3) := by decide +kernel
theorem dX4_count_64 : decode cX4_count 64 = .ok (.ireturn, 1) := by decide +kernel
theorem dX4_count_65 : decode cX4_count 65 = .ok (.aload_n 0, 1) := by decide +kernel
theorem dX4_count_66 : decode cX4_count 66 = .ok (.getfield 22, 3) := by decide +kernel
theorem dX4_count_69 : decode cX4_count 69 = .ok (.invokevirtual 96, 3) := by decide +kernel
theorem dX4_count_72 : decode cX4_count 72 = .ok (.ireturn, 1) := by decide +kernel
theorem dX4_count_73 : decode cX4_count 73 = .ok (.aload_n 0, 1) := by decide +kernel
theorem dX4_count_74 : decode cX4_count 74 = .ok (.getfield 22, 3) := by decide +kernel
theorem dX4_count_77 : decode cX4_count 77 = .ok (.invokevirtual 152, 3) := by decide +kernel
theorem dX4_count_80 : decode cX4_count 80 = .ok (.ireturn, 1) := by decide +kernel
theorem dX4_count_81 : decode cX4_count 81 = .ok (.aload_n 0, 1) := by decide +kernel
theorem dX4_count_82 : decode cX4_count 82 = .ok (.getfield 16, 3) := by decide +kernel
theorem dX4_count_85 : decode cX4_count 85 = .ok (.invokevirtual 49, 3) := by decide +kernel
theorem dX4_count_88 : decode cX4_count 88 = .ok (.ireturn, 1) := by decide +kernel
theorem dX4_count_89 : decode cX4_count 89 = .ok (.aload_n 0, 1) := by decide +kernel
theorem dX4_count_90 : decode cX4_count 90 = .ok (.invokevirtual 199, 3) := by decide +kernel
theorem dX4_count_93 : decode cX4_count 93 = .ok (.ireturn, 1) := by decide +kernel
theorem dX4_count_94 : decode cX4_count 94 = .ok (.aload_n 0, 1) := by decide +kernel
theorem dX4_count_95 : decode cX4_count 95 = .ok (.invokevirtual 202, 3) := by decide +kernel
theorem dX4_count_98 : decode cX4_count 98 = .ok (.ireturn, 1) := by decide +kernel
theorem dX4_count_99 : decode cX4_count 99 = .ok (.aload_n 0, 1) := by decide +kernel
theorem dX4_count_100 : decode cX4_count 100 = .ok (.getfield 29, 3) := by decide +kernel
theorem dX4_count_103 : decode cX4_count 103 = .ok (.ireturn, 1) := by decide +kernel
theorem dX4_count_104 : decode cX4_count 104 = .ok (.aload_n 0, 1) := by decide +kernel
theorem dX4_count_105 : decode cX4_count 105 = .ok (.getfield 22, 3) := by decide +kernel
theorem dX4_count_108 : decode cX4_count 108 = .ok (.invokevirtual 205, 3) := by decide +kernel
theorem dX4_count_111 : decode cX4_count 111 = .ok (.ireturn, 1) := by decide +kernel
theorem dX4_count_112 : decode cX4_count 112 = .ok (.new 71, 3) := by decide +kernel
theorem dX4_count_115 : decode cX4_count 115 = .ok (.dup, 1) := by decide +kernel
theorem dX4_count_116 : decode cX4_count 116 = .ok (.ldc 208, 2) := by decide +kernel
theorem dX4_count_118 : decode cX4_count 118 = .ok (.invokespecial 75, 3) := by decide +kernel
theorem dX4_count_121 : decode cX4_count 121 = .ok (.athrow, 1) := by decide +kernel
theorem dX4_until_0 : decode cX4_until 0 = .ok (.aload_n 0, 1) := by decide +kernel
theorem dX4_until_1 : decode cX4_until 1 = .ok (.getfield 26, 3) := by decide +kernel
theorem dX4_until_4 : decode cX4_until 4 = .ok (.iload_n 1, 1) := by decide +kernel
theorem dX4_until_5 : decode cX4_until 5 = .ok (.iload_n 2, 1) := by decide +kernel
theorem dX4_until_6 : decode cX4_until 6 = .ok (.invokevirtual 67, 3) := by decide +kernel
theorem dX4_until_9 : decode cX4_until 9 = .ok (.astore 5, 2) := by decide +kernel
theorem dX4_until_11 : decode cX4_until 11 = .ok (.aload 5, 2) := by decide +kernel
theorem dX4_until_13 : decode cX4_until 13 = .ok (.ifnonnull 13, 3) := by decide +kernel
theorem dX4_until_16 : decode cX4_until 16 = .ok (.new 71, 3) := by decide +kernel
theorem dX4_until_19 : decode cX4_until 19 = .ok (.dup, 1) := by decide +kernel
theorem dX4_until_20 : decode cX4_until 20 = .ok (.ldc 73, 2) := by decide +kernel
theorem dX4_until_22 : decode cX4_until 22 = .ok (.invokespecial 75, 3) := by decide +kernel
theorem dX4_until_25 : decode cX4_until 25 = .ok (.athrow, 1) := by decide +kernel
theorem dX4_until_26 : decode cX4_until 26 = .ok (.iload_n 3, 1) := by decide +kernel
theorem dX4_until_27 : decode cX4_until 27 = .ok (.iconst 0, 1) := by decide +kernel
theorem dX4_until_28 : decode cX4_until 28 = .ok (.bipush 100, 2) := by decide +kernel
theorem dX4_until_30 : decode cX4_until 30 = .ok (.invokestatic 36, 3) := by decide +kernel
theorem dX4_until_33 : decode cX4_until 33 = .ok (.ifCond .ne 13, 3) := by decide +kernel
theorem dX4_until_36 : decode cX4_until 36 = .ok (.new 40, 3) := by decide +kernel
theorem dX4_until_39 : decode cX4_until 39 = .ok (.dup, 1) := by decide +kernel
theorem dX4_until_40 : decode cX4_until 40 = .ok (.ldc 82, 2) := by decide +kernel
theorem dX4_until_42 : decode cX4_until 42 = .ok (.invokespecial 44, 3) := by decide +kernel
theorem dX4_until_45 : decode cX4_until 45 = .ok (.athrow, 1) := by decide +kernel
theorem dX4_until_46 : decode cX4_until 46 = .ok (.iload 4, 2) := by decide +kernel
theorem dX4_until_48 : decode cX4_until 48 = .ok (.iconst 0, 1) := by decide +kernel
theorem dX4_until_49 : decode cX4_until 49 = .ok (.bipush 9, 2) := by decide +kernel
theorem dX4_until_51 : decode cX4_until 51 = .ok (.invokestatic 36, 3) := by decide +kernel
theorem dX4_until_54 : decode cX4_until 54 = .ok (.ifCond .ne 13, 3) := by decide +kernel
theorem dX4_until_57 : decode cX4_until 57 = .ok (.new 40, 3) := by decide +kernel
theorem dX4_until_60 : decode cX4_until 60 = .ok (.dup, 1) := by decide +kernel
theorem dX4_until_61 : decode cX4_until 61 = .ok (.ldc 147, 2) := by decide +kernel
theorem dX4_until_63 : decode cX4_until 63 = .ok (.invokespecial 44, 3) := by decide +kernel
theorem dX4_until_66 : decode cX4_until 66 = .ok (.athrow, 1) := by decide +kernel
theorem dX4_until_67 : decode cX4_until 67 = .ok (.aload_n 0, 1) := by decide +kernel
theorem dX4_until_68 : decode cX4_until 68 = .ok (.getfield 26, 3) := by decide +kernel
theorem dX4_until_71 : decode cX4_until 71 = .ok (.aload_n 0, 1) := by decide +kernel
theorem dX4_until_72 : decode cX4_until 72 = .ok (.getfield 22, 3) := by decide +kernel
theorem dX4_until_75 : decode cX4_until 75 = .ok (.invokevirtual 210, 3) := by decide +kernel
theorem dX4_until_78 : decode cX4_until 78 = .ok (.aload 5, 2) := by decide +kernel
theorem dX4_until_80 : decode cX4_until 80 = .ok (.invokevirtual 84, 3) := by decide +kernel
theorem dX4_until_83 : decode cX4_until 83 = .ok (.ifCond .ne 5, 3) := by decide +kernel
theorem dX4_until_86 : decode cX4_until 86 = .ok (.iconst (-1), 1) := by decide +kernel
theorem dX4_until_87 : decode cX4_until 87 = .ok (.ireturn, 1) := by decide +kernel
theorem dX4_until_88 : decode cX4_until 88 = .ok (.iconst 0, 1) := by decide +kernel
theorem dX4_until_89 : decode cX4_until 89 = .ok (.istore 6, 2) := by decide +kernel
theorem dX4_until_91 : decode cX4_until 91 = .ok (.iload 6, 2) := by decide +kernel
theorem dX4_until_93 : decode cX4_until 93 = .ok (.bipush 90, 2) := by decide +kernel
theorem dX4_until_95 : decode cX4_until 95 = .ok (.if_icmp .ge 32, 3) := by decide +kernel
theorem dX4_until_98 : decode cX4_until 98 = .ok (.aload 5, 2) := by decide +kernel
theorem dX4_until_100 : decode cX4_until 100 = .ok (.invokevirtual 101, 3) := by decide +kernel
theorem dX4_until_103 : decode cX4_until 103 = .ok (.iload_n 3, 1) := by decide +kernel
theorem dX4_until_104 : decode cX4_until 104 = .ok (.if_icmp .le 23, 3) := by decide +kernel
theorem dX4_until_107 : decode cX4_until 107 = .ok (.aload_n 0, 1) := by decide +kernel
theorem dX4_until_108 : decode cX4_until 108 = .ok (.getfield 26, 3) := by decide +kernel
theorem dX4_until_111 : decode cX4_until 111 = .ok (.iconst 1, 1) := by decide +kernel
theorem dX4_until_112 : decode cX4_until 112 = .ok (.aload_n 0, 1) := by decide +kernel
theorem dX4_until_113 : decode cX4_until 113 = .ok (.getfield 29, 3) := by decide +kernel
theorem dX4_until_116 : decode cX4_until 116 = .ok (.iload 4, 2) := by decide +kernel
theorem dX4_until_118 : decode cX4_until 118 = .ok (.invokevirtual 149, 3) := by decide +kernel
theorem dX4_until_121 : decode cX4_until 121 = .ok (.iinc 6 1, 3) := by decide +kernel
theorem dX4_until_124 : decode cX4_until 124 = .ok (.goto (-33), 3) := by decide +kernel
theorem dX4_until_127 : decode cX4_until 127 = .ok (.aload 5, 2) := by decide +kernel
theorem dX4_until_129 : decode cX4_until 129 = .ok (.invokevirtual 101, 3) := by decide +kernel
theorem dX4_until_132 : decode cX4_until 132 = .ok (.iload_n 3, 1) := by decide +kernel
theorem dX4_until_133 : decode cX4_until 133 = .ok (.if_icmp .le 7, 3) := by decide +kernel
theorem dX4_until_136 : decode cX4_until 136 = .ok (.iconst (-1), 1) := by decide +kernel
theorem dX4_until_137 : decode cX4_until 137 = .ok (.goto 5, 3) := by decide +kernel
theorem dX4_until_140 : decode cX4_until 140 = .ok (.iload 6, 2) := by decide +kernel
theorem dX4_until_142 : decode cX4_until 142 = .ok (.ireturn, 1) := by decide +kernel
theorem dX4_foresee_0 : decode cX4_foresee 0 = .ok (.iload_n 1, 1) := by decide +kernel
theorem dX4_foresee_1 : decode cX4_foresee 1 = .ok (.iconst 1, 1) := by decide +kernel
theorem dX4_foresee_2 : decode cX4_foresee 2 = .ok (.bipush 60, 2) := by decide +kernel
theorem dX4_foresee_4 : decode cX4_foresee 4 = .ok (.invokestatic 36, 3) := by decide +kernel
theorem dX4_foresee_7 : decode cX4_foresee 7 = .ok (.ifCond .ne 13, 3) := by decide +kernel
theorem dX4_foresee_10 : decode cX4_foresee 10 = .ok (.new 40, 3) := by decide +kernel
theorem dX4_foresee_13 : decode cX4_foresee 13 = .ok (.dup, 1) := by decide +kernel
theorem dX4_foresee_14 : decode cX4_foresee 14 = .ok (.ldc 145, 2) := by decide +kernel
theorem dX4_foresee_16 : decode cX4_foresee 16 = .ok (.invokespecial 44, 3) := by decide +kernel
theorem dX4_foresee_19 : decode cX4_foresee 19 = .ok (.athrow, 1) := by decide +kernel
theorem dX4_foresee_20 : decode cX4_foresee 20 = .ok (.iload_n 2, 1) := by decide +kernel
theorem dX4_foresee_21 : decode cX4_foresee 21 = .ok (.iconst 0, 1) := by decide +kernel
theorem dX4_foresee_22 : decode cX4_foresee 22 = .ok (.bipush 9, 2) := by decide +kernel
theorem dX4_foresee_24 : decode cX4_foresee 24 = .ok (.invokestatic 36, 3) := by decide +kernel
theorem dX4_foresee_27 : decode cX4_foresee 27 = .ok (.ifCond .ne 13, 3) := by decide +kernel
theorem dX4_foresee_30 : decode cX4_foresee 30 = .ok (.new 40, 3) := by decide +kernel
theorem dX4_foresee_33 : decode cX4_foresee 33 = .ok (.dup, 1) := by decide +kernel
theorem dX4_foresee_34 : decode cX4_foresee 34 = .ok (.ldc 147, 2) := by decide +kernel
theorem dX4_foresee_36 : decode cX4_foresee 36 = .ok (.invokespecial 44, 3) := by decide +kernel
theorem dX4_foresee_39 : decode cX4_foresee 39 = .ok (.athrow, 1) := by decide +kernel
theorem dX4_foresee_40 : decode cX4_foresee 40 = .ok (.iload_n 3, 1) := by decide +kernel
theorem dX4_foresee_41 : decode cX4_foresee 41 = .ok (.iconst 3, 1) := by decide +kernel
theorem dX4_foresee_42 : decode cX4_foresee 42 = .ok (.if_icmp .eq 19, 3) := by decide +kernel
theorem dX4_foresee_45 : decode cX4_foresee 45 = .ok (.iload_n 3, 1) := by decide +kernel
theorem dX4_foresee_46 : decode cX4_foresee 46 = .ok (.bipush 8, 2) := by decide +kernel
theorem dX4_foresee_48 : decode cX4_foresee 48 = .ok (.if_icmp .eq 13, 3) := by decide +kernel
theorem dX4_foresee_51 : decode cX4_foresee 51 = .ok (.new 71, 3) := by decide +kernel
theorem dX4_foresee_54 : decode cX4_foresee 54 = .ok (.dup, 1) := by decide +kernel
theorem dX4_foresee_55 : decode cX4_foresee 55 = .ok (.ldc 214, 2) := by decide +kernel
theorem dX4_foresee_57 : decode cX4_foresee 57 = .ok (.invokespecial 75, 3) := by decide +kernel
theorem dX4_foresee_60 : decode cX4_foresee 60 = .ok (.athrow, 1) := by decide +kernel
theorem dX4_foresee_61 : decode cX4_foresee 61 = .ok (.aload_n 0, 1) := by decide +kernel
theorem dX4_foresee_62 : decode cX4_foresee 62 = .ok (.getfield 26, 3) := by decide +kernel
theorem dX4_foresee_65 : decode cX4_foresee 65 = .ok (.aload_n 0, 1) := by decide +kernel
theorem dX4_foresee_66 : decode cX4_foresee 66 = .ok (.getfield 22, 3) := by decide +kernel
theorem dX4_foresee_69 : decode cX4_foresee 69 = .ok (.invokevirtual 210, 3) := by decide +kernel
theorem dX4_foresee_72 : decode cX4_foresee 72 = .ok (.aload_n 0, 1) := by decide +kernel
theorem dX4_foresee_73 : decode cX4_foresee 73 = .ok (.getfield 26, 3) := by decide +kernel
theorem dX4_foresee_76 : decode cX4_foresee 76 = .ok (.iload_n 1, 1) := by decide +kernel
theorem dX4_foresee_77 : decode cX4_foresee 77 = .ok (.aload_n 0, 1) := by decide +kernel
theorem dX4_foresee_78 : decode cX4_foresee 78 = .ok (.getfield 29, 3) := by decide +kernel
theorem dX4_foresee_81 : decode cX4_foresee 81 = .ok (.iload_n 2, 1) := by decide +kernel
theorem dX4_foresee_82 : decode cX4_foresee 82 = .ok (.invokevirtual 149, 3) := by decide +kernel
theorem dX4_foresee_85 : decode cX4_foresee 85 = .ok (.iload_n 3, 1) := by decide +kernel
theorem dX4_foresee_86 : decode cX4_foresee 86 = .ok (.iconst 3, 1) := by decide +kernel
theorem dX4_foresee_87 : decode cX4_foresee 87 = .ok (.if_icmp .ne 13, 3) := by decide +kernel
theorem dX4_foresee_90 : decode cX4_foresee 90 = .ok (.aload_n 0, 1) := by decide +kernel
theorem dX4_foresee_91 : decode cX4_foresee 91 = .ok (.getfield 26, 3) := by decide +kernel
theorem dX4_foresee_94 : decode cX4_foresee 94 = .ok (.invokevirtual 152, 3) := by decide +kernel
theorem dX4_foresee_97 : decode cX4_foresee 97 = .ok (.goto 10, 3) := by decide +kernel
theorem dX4_foresee_100 : decode cX4_foresee 100 = .ok (.aload_n 0, 1) := by decide +kernel
theorem dX4_foresee_101 : decode cX4_foresee 101 = .ok (.getfield 26, 3) := by decide +kernel
theorem dX4_foresee_104 : decode cX4_foresee 104 = .ok (.invokevirtual 205, 3) := by decide +kernel
theorem dX4_foresee_107 : decode cX4_foresee 107 = .ok (.ireturn, 1) := by decide +kernel
theorem dX4_advise_0 : decode cX4_advise 0 = .ok (.iload_n 1, 1) := by decide +kernel
theorem dX4_advise_1 : decode cX4_advise 1 = .ok (.iconst 1, 1) := by decide +kernel
theorem dX4_advise_2 : decode cX4_advise 2 = .ok (.bipush 30, 2) := by decide +kernel
theorem dX4_advise_4 : decode cX4_advise 4 = .ok (.invokestatic 36, 3) := by decide +kernel
theorem dX4_advise_7 : decode cX4_advise 7 = .ok (.ifCond .ne 13, 3) := by decide +kernel
theorem dX4_advise_10 : decode cX4_advise 10 = .ok (.new 40, 3) := by decide +kernel
theorem dX4_advise_13 : decode cX4_advise 13 = .ok (.dup, 1) := by decide +kernel
theorem dX4_advise_14 : decode cX4_advise 14 = .ok (.ldc 216, 2) := by decide +kernel
theorem dX4_advise_16 : decode cX4_advise 16 = .ok (.invokespecial 44, 3) := by decide +kernel
theorem dX4_advise_19 : decode cX4_advise 19 = .ok (.athrow, 1) := by decide +kernel
theorem dX4_advise_20 : decode cX4_advise 20 = .ok (.iload_n 2, 1) := by decide +kernel
theorem dX4_advise_21 : decode cX4_advise 21 = .ok (.iconst 0, 1) := by decide +kernel
theorem dX4_advise_22 : decode cX4_advise 22 = .ok (.bipush 9, 2) := by decide +kernel
theorem dX4_advise_24 : decode cX4_advise 24 = .ok (.invokestatic 36, 3) := by decide +kernel
theorem dX4_advise_27 : decode cX4_advise 27 = .ok (.ifCond .ne 13, 3) := by decide +kernel
theorem dX4_advise_30 : decode cX4_advise 30 = .ok (.new 40, 3) := by decide +kernel
theorem dX4_advise_33 : decode cX4_advise 33 = .ok (.dup, 1) := by decide +kernel
theorem dX4_advise_34 : decode cX4_advise 34 = .ok (.ldc 147, 2) := by decide +kernel
theorem dX4_advise_36 : decode cX4_advise 36 = .ok (.invokespecial 44, 3) := by decide +kernel
theorem dX4_advise_39 : decode cX4_advise 39 = .ok (.athrow, 1) := by decide +kernel
theorem dX4_advise_40 : decode cX4_advise 40 = .ok (.aload_n 0, 1) := by decide +kernel
theorem dX4_advise_41 : decode cX4_advise 41 = .ok (.getfield 26, 3) := by decide +kernel
theorem dX4_advise_44 : decode cX4_advise 44 = .ok (.aload_n 0, 1) := by decide +kernel
theorem dX4_advise_45 : decode cX4_advise 45 = .ok (.getfield 22, 3) := by decide +kernel
theorem dX4_advise_48 : decode cX4_advise 48 = .ok (.invokevirtual 210, 3) := by decide +kernel
theorem dX4_advise_51 : decode cX4_advise 51 = .ok (.aload_n 0, 1) := by decide +kernel
theorem dX4_advise_52 : decode cX4_advise 52 = .ok (.iload_n 1, 1) := by decide +kernel
theorem dX4_advise_53 : decode cX4_advise 53 = .ok (.iload_n 2, 1) := by decide +kernel
theorem dX4_advise_54 : decode cX4_advise 54 = .ok (.invokevirtual 218, 3) := by decide +kernel
theorem dX4_advise_57 : decode cX4_advise 57 = .ok (.istore_n 3, 1) := by decide +kernel
theorem dX4_advise_58 : decode cX4_advise 58 = .ok (.iconst (-1), 1) := by decide +kernel
theorem dX4_advise_59 : decode cX4_advise 59 = .ok (.istore 4, 2) := by decide +kernel
theorem dX4_advise_61 : decode cX4_advise 61 = .ok (.iconst 0, 1) := by decide +kernel
theorem dX4_advise_62 : decode cX4_advise 62 = .ok (.istore 5, 2) := by decide +kernel
theorem dX4_advise_64 : decode cX4_advise 64 = .ok (.iload 5, 2) := by decide +kernel
theorem dX4_advise_66 : decode cX4_advise 66 = .ok (.iconst 5, 1) := by decide +kernel
theorem dX4_advise_67 : decode cX4_advise 67 = .ok (.if_icmp .ge 51, 3) := by decide +kernel
theorem dX4_advise_70 : decode cX4_advise 70 = .ok (.aload_n 0, 1) := by decide +kernel
theorem dX4_advise_71 : decode cX4_advise 71 = .ok (.getfield 26, 3) := by decide +kernel
theorem dX4_advise_74 : decode cX4_advise 74 = .ok (.aload_n 0, 1) := by decide +kernel
theorem dX4_advise_75 : decode cX4_advise 75 = .ok (.getfield 22, 3) := by decide +kernel
theorem dX4_advise_78 : decode cX4_advise 78 = .ok (.invokevirtual 210, 3) := by decide +kernel
theorem dX4_advise_81 : decode cX4_advise 81 = .ok (.aload_n 0, 1) := by decide +kernel
theorem dX4_advise_82 : decode cX4_advise 82 = .ok (.getfield 26, 3) := by decide +kernel
theorem dX4_advise_85 : decode cX4_advise 85 = .ok (.iload 5, 2) := by decide +kernel
theorem dX4_advise_87 : decode cX4_advise 87 = .ok (.invokevirtual 120, 3) := by decide +kernel
theorem dX4_advise_90 : decode cX4_advise 90 = .ok (.pop, 1) := by decide +kernel
theorem dX4_advise_91 : decode cX4_advise 91 = .ok (.aload_n 0, 1) := by decide +kernel
theorem dX4_advise_92 : decode cX4_advise 92 = .ok (.iload_n 1, 1) := by decide +kernel
theorem dX4_advise_93 : decode cX4_advise 93 = .ok (.iload_n 2, 1) := by decide +kernel
theorem dX4_advise_94 : decode cX4_advise 94 = .ok (.invokevirtual 218, 3) := by decide +kernel
theorem dX4_advise_97 : decode cX4_advise 97 = .ok (.istore 6, 2) := by decide +kernel
theorem dX4_advise_99 : decode cX4_advise 99 = .ok (.iload 6, 2) := by decide +kernel
theorem dX4_advise_101 : decode cX4_advise 101 = .ok (.iload_n 3, 1) := by decide +kernel
theorem dX4_advise_102 : decode cX4_advise 102 = .ok (.if_icmp .ge 10, 3) := by decide +kernel
theorem dX4_advise_105 : decode cX4_advise 105 = .ok (.iload 6, 2) := by decide +kernel
theorem dX4_advise_107 : decode cX4_advise 107 = .ok (.istore_n 3, 1) := by decide +kernel
theorem dX4_advise_108 : decode cX4_advise 108 = .ok (.iload 5, 2) := by decide +kernel
theorem dX4_advise_110 : decode cX4_advise 110 = .ok (.istore 4, 2) := by decide +kernel
theorem dX4_advise_112 : decode cX4_advise 112 = .ok (.iinc 5 1, 3) := by decide +kernel
theorem dX4_advise_115 : decode cX4_advise 115 = .ok (.goto (-51), 3) := by decide +kernel
theorem dX4_advise_118 : decode cX4_advise 118 = .ok (.iload 4, 2) := by decide +kernel
theorem dX4_advise_120 : decode cX4_advise 120 = .ok (.ireturn, 1) := by decide +kernel
theorem dX4_mean_0 : decode cX4_mean 0 = .ok (.aload_n 0, 1) := by decide +kernel
theorem dX4_mean_1 : decode cX4_mean 1 = .ok (.getfield 22, 3) := by decide +kernel
theorem dX4_mean_4 : decode cX4_mean 4 = .ok (.invokevirtual 96, 3) := by decide +kernel
theorem dX4_mean_7 : decode cX4_mean 7 = .ok (.istore_n 1, 1) := by decide +kernel
theorem dX4_mean_8 : decode cX4_mean 8 = .ok (.iload_n 1, 1) := by decide +kernel
theorem dX4_mean_9 : decode cX4_mean 9 = .ok (.ifCond .ne 5, 3) := by decide +kernel
theorem dX4_mean_12 : decode cX4_mean 12 = .ok (.dconst 0, 1) := by decide +kernel
theorem dX4_mean_13 : decode cX4_mean 13 = .ok (.dreturn, 1) := by decide +kernel
theorem dX4_mean_14 : decode cX4_mean 14 = .ok (.aload_n 0, 1) := by decide +kernel
theorem dX4_mean_15 : decode cX4_mean 15 = .ok (.getfield 22, 3) := by decide +kernel
theorem dX4_mean_18 : decode cX4_mean 18 = .ok (.invokevirtual 205, 3) := by decide +kernel
theorem dX4_mean_21 : decode cX4_mean 21 = .ok (.i2d, 1) := by decide +kernel
theorem dX4_mean_22 : decode cX4_mean 22 = .ok (.iload_n 1, 1) := by decide +kernel
theorem dX4_mean_23 : decode cX4_mean 23 = .ok (.i2d, 1) := by decide +kernel
theorem dX4_mean_24 : decode cX4_mean 24 = .ok (.ddiv, 1) := by decide +kernel
theorem dX4_mean_25 : decode cX4_mean 25 = .ok (.dreturn, 1) := by decide +kernel
theorem dX4_digest_0 : decode cX4_digest 0 = .ok (.ldc2_w 222, 3) := by decide +kernel
theorem dX4_digest_3 : decode cX4_digest 3 = .ok (.lstore_n 1, 1) := by decide +kernel
theorem dX4_digest_4 : decode cX4_digest 4 = .ok (.iconst 0, 1) := by decide +kernel
theorem dX4_digest_5 : decode cX4_digest 5 = .ok (.istore_n 3, 1) := by decide +kernel
theorem dX4_digest_6 : decode cX4_digest 6 = .ok (.iload_n 3, 1) := by decide +kernel
theorem dX4_digest_7 : decode cX4_digest 7 = .ok (.bipush 8, 2) := by decide +kernel
theorem dX4_digest_9 : decode cX4_digest 9 = .ok (.if_icmp .gt 22, 3) := by decide +kernel
theorem dX4_digest_12 : decode cX4_digest 12 = .ok (.lload_n 1, 1) := by decide +kernel
theorem dX4_digest_13 : decode cX4_digest 13 = .ok (.ldc2_w 224, 3) := by decide +kernel
theorem dX4_digest_16 : decode cX4_digest 16 = .ok (.lmul, 1) := by decide +kernel
theorem dX4_digest_17 : decode cX4_digest 17 = .ok (.aload_n 0, 1) := by decide +kernel
theorem dX4_digest_18 : decode cX4_digest 18 = .ok (.iload_n 3, 1) := by decide +kernel
theorem dX4_digest_19 : decode cX4_digest 19 = .ok (.invokevirtual 226, 3) := by decide +kernel
theorem dX4_digest_22 : decode cX4_digest 22 = .ok (.i2l, 1) := by decide +kernel
theorem dX4_digest_23 : decode cX4_digest 23 = .ok (.ladd, 1) := by decide +kernel
theorem dX4_digest_24 : decode cX4_digest 24 = .ok (.lstore_n 1, 1) := by decide +kernel
theorem dX4_digest_25 : decode cX4_digest 25 = .ok (.iinc 3 1, 3) := by decide +kernel
theorem dX4_digest_28 : decode cX4_digest 28 = .ok (.goto (-22), 3) := by decide +kernel
theorem dX4_digest_31 : decode cX4_digest 31 = .ok (.iconst 0, 1) := by decide +kernel
theorem dX4_digest_32 : decode cX4_digest 32 = .ok (.istore_n 3, 1) := by decide +kernel
theorem dX4_digest_33 : decode cX4_digest 33 = .ok (.iload_n 3, 1) := by decide +kernel
theorem dX4_digest_34 : decode cX4_digest 34 = .ok (.aload_n 0, 1) := by decide +kernel
theorem dX4_digest_35 : decode cX4_digest 35 = .ok (.getfield 10, 3) := by decide +kernel
theorem dX4_digest_38 : decode cX4_digest 38 = .ok (.invokevirtual 49, 3) := by decide +kernel
theorem dX4_digest_41 : decode cX4_digest 41 = .ok (.if_icmp .ge 39, 3) := by decide +kernel
theorem dX4_digest_44 : decode cX4_digest 44 = .ok (.iconst 0, 1) := by decide +kernel
theorem dX4_digest_45 : decode cX4_digest 45 = .ok (.istore 4, 2) := by decide +kernel
theorem dX4_digest_47 : decode cX4_digest 47 = .ok (.iload 4, 2) := by decide +kernel
theorem dX4_digest_49 : decode cX4_digest 49 = .ok (.iconst 4, 1) := by decide +kernel
theorem dX4_digest_50 : decode cX4_digest 50 = .ok (.if_icmp .gt 24, 3) := by decide +kernel
theorem dX4_digest_53 : decode cX4_digest 53 = .ok (.lload_n 1, 1) := by decide +kernel
theorem dX4_digest_54 : decode cX4_digest 54 = .ok (.ldc2_w 224, 3) := by decide +kernel
theorem dX4_digest_57 : decode cX4_digest 57 = .ok (.lmul, 1) := by decide +kernel
theorem dX4_digest_58 : decode cX4_digest 58 = .ok (.aload_n 0, 1) := by decide +kernel
theorem dX4_digest_59 : decode cX4_digest 59 = .ok (.iload_n 3, 1) := by decide +kernel
theorem dX4_digest_60 : decode cX4_digest 60 = .ok (.iload 4, 2) := by decide +kernel
theorem dX4_digest_62 : decode cX4_digest 62 = .ok (.invokevirtual 229, 3) := by decide +kernel
theorem dX4_digest_65 : decode cX4_digest 65 = .ok (.i2l, 1) := by decide +kernel
theorem dX4_digest_66 : decode cX4_digest 66 = .ok (.ladd, 1) := by decide +kernel
theorem dX4_digest_67 : decode cX4_digest 67 = .ok (.lstore_n 1, 1) := by decide +kernel
theorem dX4_digest_68 : decode cX4_digest 68 = .ok (.iinc 4 1, 3) := by decide +kernel
theorem dX4_digest_71 : decode cX4_digest 71 = .ok (.goto (-24), 3) := by decide +kernel
theorem dX4_digest_74 : decode cX4_digest 74 = .ok (.iinc 3 1, 3) := by decide +kernel
theorem dX4_digest_77 : decode cX4_digest 77 = .ok (.goto (-44), 3) := by decide +kernel
theorem dX4_digest_80 : decode cX4_digest 80 = .ok (.iconst 0, 1) := by decide +kernel
theorem dX4_digest_81 : decode cX4_digest 81 = .ok (.istore_n 3, 1) := by decide +kernel
theorem dX4_digest_82 : decode cX4_digest 82 = .ok (.iload_n 3, 1) := by decide +kernel
theorem dX4_digest_83 : decode cX4_digest 83 = .ok (.aload_n 0, 1) := by decide +kernel
theorem dX4_digest_84 : decode cX4_digest 84 = .ok (.getfield 16, 3) := by decide +kernel
theorem dX4_digest_87 : decode cX4_digest 87 = .ok (.invokevirtual 49, 3) := by decide +kernel
theorem dX4_digest_90 : decode cX4_digest 90 = .ok (.if_icmp .ge 39, 3) := by decide +kernel
theorem dX4_digest_93 : decode cX4_digest 93 = .ok (.iconst 0, 1) := by decide +kernel
theorem dX4_digest_94 : decode cX4_digest 94 = .ok (.istore 4, 2) := by decide +kernel
theorem dX4_digest_96 : decode cX4_digest 96 = .ok (.iload 4, 2) := by decide +kernel
theorem dX4_digest_98 : decode cX4_digest 98 = .ok (.iconst 4, 1) := by decide +kernel
theorem dX4_digest_99 : decode cX4_digest 99 = .ok (.if_icmp .gt 24, 3) := by decide +kernel
theorem dX4_digest_102 : decode cX4_digest 102 = .ok (.lload_n 1, 1) := by decide +kernel
theorem dX4_digest_103 : decode cX4_digest 103 = .ok (.ldc2_w 224, 3) := by decide +kernel
theorem dX4_digest_106 : decode cX4_digest 106 = .ok (.lmul, 1) := by decide +kernel
theorem dX4_digest_107 : decode cX4_digest 107 = .ok (.aload_n 0, 1) := by decide +kernel
theorem dX4_digest_108 : decode cX4_digest 108 = .ok (.iload_n 3, 1) := by decide +kernel
theorem dX4_digest_109 : decode cX4_digest 109 = .ok (.iload 4, 2) := by decide +kernel
theorem dX4_digest_111 : decode cX4_digest 111 = .ok (.invokevirtual 232, 3) := by decide +kernel
theorem dX4_digest_114 : decode cX4_digest 114 = .ok (.i2l, 1) := by decide +kernel
theorem dX4_digest_115 : decode cX4_digest 115 = .ok (.ladd, 1) := by decide +kernel
theorem dX4_digest_116 : decode cX4_digest 116 = .ok (.lstore_n 1, 1) := by decide +kernel
theorem dX4_digest_117 : decode cX4_digest 117 = .ok (.iinc 4 1, 3) := by decide +kernel
theorem dX4_digest_120 : decode cX4_digest 120 = .ok (.goto (-24), 3) := by decide +kernel
theorem dX4_digest_123 : decode cX4_digest 123 = .ok (.iinc 3 1, 3) := by decide +kernel
theorem dX4_digest_126 : decode cX4_digest 126 = .ok (.goto (-44), 3) := by decide +kernel
theorem dX4_digest_129 : decode cX4_digest 129 = .ok (.iconst 0, 1) := by decide +kernel
theorem dX4_digest_130 : decode cX4_digest 130 = .ok (.istore_n 3, 1) := by decide +kernel
theorem dX4_digest_131 : decode cX4_digest 131 = .ok (.iload_n 3, 1) := by decide +kernel
theorem dX4_digest_132 : decode cX4_digest 132 = .ok (.iconst 5, 1) := by decide +kernel
theorem dX4_digest_133 : decode cX4_digest 133 = .ok (.if_icmp .ge 57, 3) := by decide +kernel
theorem dX4_digest_136 : decode cX4_digest 136 = .ok (.iconst 0, 1) := by decide +kernel
theorem dX4_digest_137 : decode cX4_digest 137 = .ok (.istore 4, 2) := by decide +kernel
theorem dX4_digest_139 : decode cX4_digest 139 = .ok (.iload 4, 2) := by decide +kernel
theorem dX4_digest_141 : decode cX4_digest 141 = .ok (.bipush 8, 2) := by decide +kernel
theorem dX4_digest_143 : decode cX4_digest 143 = .ok (.if_icmp .ge 41, 3) := by decide +kernel
theorem dX4_digest_146 : decode cX4_digest 146 = .ok (.iconst 0, 1) := by decide +kernel
theorem dX4_digest_147 : decode cX4_digest 147 = .ok (.istore 5, 2) := by decide +kernel
theorem dX4_digest_149 : decode cX4_digest 149 = .ok (.iload 5, 2) := by decide +kernel
theorem dX4_digest_151 : decode cX4_digest 151 = .ok (.iconst 5, 1) := by decide +kernel
theorem dX4_digest_152 : decode cX4_digest 152 = .ok (.if_icmp .gt 26, 3) := by decide +kernel
theorem dX4_digest_155 : decode cX4_digest 155 = .ok (.lload_n 1, 1) := by decide +kernel
theorem dX4_digest_156 : decode cX4_digest 156 = .ok (.ldc2_w 224, 3) := by decide +kernel
theorem dX4_digest_159 : decode cX4_digest 159 = .ok (.lmul, 1) := by decide +kernel
theorem dX4_digest_160 : decode cX4_digest 160 = .ok (.aload_n 0, 1) := by decide +kernel
theorem dX4_digest_161 : decode cX4_digest 161 = .ok (.iload_n 3, 1) := by decide +kernel
theorem dX4_digest_162 : decode cX4_digest 162 = .ok (.iload 4, 2) := by decide +kernel
theorem dX4_digest_164 : decode cX4_digest 164 = .ok (.iload 5, 2) := by decide +kernel
theorem dX4_digest_166 : decode cX4_digest 166 = .ok (.invokevirtual 235, 3) := by decide +kernel
theorem dX4_digest_169 : decode cX4_digest 169 = .ok (.i2l, 1) := by decide +kernel
theorem dX4_digest_170 : decode cX4_digest 170 = .ok (.ladd, 1) := by decide +kernel
theorem dX4_digest_171 : decode cX4_digest 171 = .ok (.lstore_n 1, 1) := by decide +kernel
theorem dX4_digest_172 : decode cX4_digest 172 = .ok (.iinc 5 1, 3) := by decide +kernel
theorem dX4_digest_175 : decode cX4_digest 175 = .ok (.goto (-26), 3) := by decide +kernel
theorem dX4_digest_178 : decode cX4_digest 178 = .ok (.iinc 4 1, 3) := by decide +kernel
theorem dX4_digest_181 : decode cX4_digest 181 = .ok (.goto (-42), 3) := by decide +kernel
theorem dX4_digest_184 : decode cX4_digest 184 = .ok (.iinc 3 1, 3) := by decide +kernel
theorem dX4_digest_187 : decode cX4_digest 187 = .ok (.goto (-56), 3) := by decide +kernel
theorem dX4_digest_190 : decode cX4_digest 190 = .ok (.lload_n 1, 1) := by decide +kernel
theorem dX4_digest_191 : decode cX4_digest 191 = .ok (.lreturn, 1) := by decide +kernel
theorem dX4_isWithin_0 : decode cX4_isWithin 0 = .ok (.iload_n 0, 1) := by decide +kernel
theorem dX4_isWithin_1 : decode cX4_isWithin 1 = .ok (.iload_n 1, 1) := by decide +kernel
theorem dX4_isWithin_2 : decode cX4_isWithin 2 = .ok (.if_icmp .lt 12, 3) := by decide +kernel
theorem dX4_isWithin_5 : decode cX4_isWithin 5 = .ok (.iload_n 0, 1) := by decide +kernel
theorem dX4_isWithin_6 : decode cX4_isWithin 6 = .ok (.iload_n 2, 1) := by decide +kernel
theorem dX4_isWithin_7 : decode cX4_isWithin 7 = .ok (.if_icmp .gt 7, 3) := by decide +kernel
theorem dX4_isWithin_10 : decode cX4_isWithin 10 = .ok (.iconst 1, 1) := by decide +kernel
theorem dX4_isWithin_11 : decode cX4_isWithin 11 = .ok (.goto 4, 3) := by decide +kernel
theorem dX4_isWithin_14 : decode cX4_isWithin 14 = .ok (.iconst 0, 1) := by decide +kernel
theorem dX4_isWithin_15 : decode cX4_isWithin 15 = .ok (.ireturn, 1) := by decide +kernel
theorem dX4_herbNumbered_0 : decode cX4_herbNumbered 0 = .ok (.iload_n 1, 1) := by decide +kernel
theorem dX4_herbNumbered_1 : decode cX4_herbNumbered 1 = .ok (.ifCond .lt 28, 3) := by decide +kernel
theorem dX4_herbNumbered_4 : decode cX4_herbNumbered 4 = .ok (.iload_n 1, 1) := by decide +kernel
theorem dX4_herbNumbered_5 : decode cX4_herbNumbered 5 = .ok (.aload_n 0, 1) := by decide +kernel
theorem dX4_herbNumbered_6 : decode cX4_herbNumbered 6 = .ok (.getfield 10, 3) := by decide +kernel
theorem dX4_herbNumbered_9 : decode cX4_herbNumbered 9 = .ok (.invokevirtual 49, 3) := by decide +kernel
theorem dX4_herbNumbered_12 : decode cX4_herbNumbered 12 = .ok (.if_icmp .ge 17, 3) := by decide +kernel
theorem dX4_herbNumbered_15 : decode cX4_herbNumbered 15 = .ok (.aload_n 0, 1) := by decide +kernel
theorem dX4_herbNumbered_16 : decode cX4_herbNumbered 16 = .ok (.getfield 10, 3) := by decide +kernel
theorem dX4_herbNumbered_19 : decode cX4_herbNumbered 19 = .ok (.iload_n 1, 1) := by decide +kernel
theorem dX4_herbNumbered_20 : decode cX4_herbNumbered 20 = .ok (.invokevirtual 137, 3) := by decide +kernel
theorem dX4_herbNumbered_23 : decode cX4_herbNumbered 23 = .ok (.checkcast 58, 3) := by decide +kernel
theorem dX4_herbNumbered_26 : decode cX4_herbNumbered 26 = .ok (.goto 4, 3) := by decide +kernel
theorem dX4_herbNumbered_29 : decode cX4_herbNumbered 29 = .ok (.aconst_null, 1) := by decide +kernel
theorem dX4_herbNumbered_30 : decode cX4_herbNumbered 30 = .ok (.areturn, 1) := by decide +kernel
theorem dX4_ordersThatGotAll_0 : decode cX4_ordersThatGotAll 0 = .ok (.iconst 0, 1) := by decide +kernel
theorem dX4_ordersThatGotAll_1 : decode cX4_ordersThatGotAll 1 = .ok (.istore_n 1, 1) := by decide +kernel
theorem dX4_ordersThatGotAll_2 : decode cX4_ordersThatGotAll 2 = .ok (.iconst 0, 1) := by decide +kernel
theorem dX4_ordersThatGotAll_3 : decode cX4_ordersThatGotAll 3 = .ok (.istore_n 2, 1) := by decide +kernel
theorem dX4_ordersThatGotAll_4 : decode cX4_ordersThatGotAll 4 = .ok (.iload_n 2, 1) := by decide +kernel
theorem dX4_ordersThatGotAll_5 : decode cX4_ordersThatGotAll 5 = .ok (.aload_n 0, 1) := by decide +kernel
theorem dX4_ordersThatGotAll_6 : decode cX4_ordersThatGotAll 6 = .ok (.getfield 16, 3) := by decide +kernel
theorem dX4_ordersThatGotAll_9 : decode cX4_ordersThatGotAll 9 = .ok (.invokevirtual 49, 3) := by decide +kernel
theorem dX4_ordersThatGotAll_12 : decode cX4_ordersThatGotAll 12 = .ok (.if_icmp .ge 29, 3) := by decide +kernel
theorem dX4_ordersThatGotAll_15 : decode cX4_ordersThatGotAll 15 = .ok (.aload_n 0, 1) := by decide +kernel
theorem dX4_ordersThatGotAll_16 : decode cX4_ordersThatGotAll 16 = .ok (.getfield 16, 3) := by decide +kernel
theorem dX4_ordersThatGotAll_19 : decode cX4_ordersThatGotAll 19 = .ok (.iload_n 2, 1) := by decide +kernel
theorem dX4_ordersThatGotAll_20 : decode cX4_ordersThatGotAll 20 = .ok (.invokevirtual 137, 3) := by decide +kernel
theorem dX4_ordersThatGotAll_23 : decode cX4_ordersThatGotAll 23 = .ok (.checkcast 132, 3) := by decide +kernel
theorem dX4_ordersThatGotAll_26 : decode cX4_ordersThatGotAll 26 = .ok (.invokevirtual 239, 3) := by decide +kernel
theorem dX4_ordersThatGotAll_29 : decode cX4_ordersThatGotAll 29 = .ok (.ifCond .ne 6, 3) := by decide +kernel
theorem dX4_ordersThatGotAll_32 : decode cX4_ordersThatGotAll 32 = .ok (.iinc 1 1, 3) := by decide +kernel
theorem dX4_ordersThatGotAll_35 : decode cX4_ordersThatGotAll 35 = .ok (.iinc 2 1, 3) := by decide +kernel
theorem dX4_ordersThatGotAll_38 : decode cX4_ordersThatGotAll 38 = .ok (.goto (-34), 3) := by decide +kernel
theorem dX4_ordersThatGotAll_41 : decode cX4_ordersThatGotAll 41 = .ok (.iload_n 1, 1) := by decide +kernel
theorem dX4_ordersThatGotAll_42 : decode cX4_ordersThatGotAll 42 = .ok (.ireturn, 1) := by decide +kernel
theorem dX4_bundlesGiven_0 : decode cX4_bundlesGiven 0 = .ok (.iconst 0, 1) := by decide +kernel
theorem dX4_bundlesGiven_1 : decode cX4_bundlesGiven 1 = .ok (.istore_n 1, 1) := by decide +kernel
theorem dX4_bundlesGiven_2 : decode cX4_bundlesGiven 2 = .ok (.iconst 0, 1) := by decide +kernel
theorem dX4_bundlesGiven_3 : decode cX4_bundlesGiven 3 = .ok (.istore_n 2, 1) := by decide +kernel
theorem dX4_bundlesGiven_4 : decode cX4_bundlesGiven 4 = .ok (.iload_n 2, 1) := by decide +kernel
theorem dX4_bundlesGiven_5 : decode cX4_bundlesGiven 5 = .ok (.aload_n 0, 1) := by decide +kernel
theorem dX4_bundlesGiven_6 : decode cX4_bundlesGiven 6 = .ok (.getfield 16, 3) := by decide +kernel
theorem dX4_bundlesGiven_9 : decode cX4_bundlesGiven 9 = .ok (.invokevirtual 49, 3) := by decide +kernel
theorem dX4_bundlesGiven_12 : decode cX4_bundlesGiven 12 = .ok (.if_icmp .ge 26, 3) := by decide +kernel
theorem dX4_bundlesGiven_15 : decode cX4_bundlesGiven 15 = .ok (.iload_n 1, 1) := by decide +kernel
theorem dX4_bundlesGiven_16 : decode cX4_bundlesGiven 16 = .ok (.aload_n 0, 1) := by decide +kernel
theorem dX4_bundlesGiven_17 : decode cX4_bundlesGiven 17 = .ok (.getfield 16, 3) := by decide +kernel
theorem dX4_bundlesGiven_20 : decode cX4_bundlesGiven 20 = .ok (.iload_n 2, 1) := by decide +kernel
theorem dX4_bundlesGiven_21 : decode cX4_bundlesGiven 21 = .ok (.invokevirtual 137, 3) := by decide +kernel
theorem dX4_bundlesGiven_24 : decode cX4_bundlesGiven 24 = .ok (.checkcast 132, 3) := by decide +kernel
theorem dX4_bundlesGiven_27 : decode cX4_bundlesGiven 27 = .ok (.getfield 193, 3) := by decide +kernel
theorem dX4_bundlesGiven_30 : decode cX4_bundlesGiven 30 = .ok (.iadd, 1) := by decide +kernel
theorem dX4_bundlesGiven_31 : decode cX4_bundlesGiven 31 = .ok (.istore_n 1, 1) := by decide +kernel
theorem dX4_bundlesGiven_32 : decode cX4_bundlesGiven 32 = .ok (.iinc 2 1, 3) := by decide +kernel
theorem dX4_bundlesGiven_35 : decode cX4_bundlesGiven 35 = .ok (.goto (-31), 3) := by decide +kernel
theorem dX4_bundlesGiven_38 : decode cX4_bundlesGiven 38 = .ok (.iload_n 1, 1) := by decide +kernel
theorem dX4_bundlesGiven_39 : decode cX4_bundlesGiven 39 = .ok (.ireturn, 1) := by decide +kernel
theorem dX4_scoreOfTrialBehind_0 : decode cX4_scoreOfTrialBehind 0 = .ok (.aload_n 0, 1) := by decide +kernel
theorem dX4_scoreOfTrialBehind_1 : decode cX4_scoreOfTrialBehind 1 = .ok (.getfield 26, 3) := by decide +kernel
theorem dX4_scoreOfTrialBehind_4 : decode cX4_scoreOfTrialBehind 4 = .ok (.iload_n 1, 1) := by decide +kernel
theorem dX4_scoreOfTrialBehind_5 : decode cX4_scoreOfTrialBehind 5 = .ok (.aload_n 0, 1) := by decide +kernel
theorem dX4_scoreOfTrialBehind_6 : decode cX4_scoreOfTrialBehind 6 = .ok (.getfield 29, 3) := by decide +kernel
theorem dX4_scoreOfTrialBehind_9 : decode cX4_scoreOfTrialBehind 9 = .ok (.iload_n 2, 1) := by decide +kernel
theorem dX4_scoreOfTrialBehind_10 : decode cX4_scoreOfTrialBehind 10 = .ok (.invokevirtual 149, 3) := by decide +kernel
theorem dX4_scoreOfTrialBehind_13 : decode cX4_scoreOfTrialBehind 13 = .ok (.aload_n 0, 1) := by decide +kernel
theorem dX4_scoreOfTrialBehind_14 : decode cX4_scoreOfTrialBehind 14 = .ok (.getfield 26, 3) := by decide +kernel
theorem dX4_scoreOfTrialBehind_17 : decode cX4_scoreOfTrialBehind 17 = .ok (.invokevirtual 152, 3) := by decide +kernel
theorem dX4_scoreOfTrialBehind_20 : decode cX4_scoreOfTrialBehind 20 = .ok (.sipush 10000, 3) := by decide +kernel
theorem dX4_scoreOfTrialBehind_23 : decode cX4_scoreOfTrialBehind 23 = .ok (.imul, 1) := by decide +kernel
theorem dX4_scoreOfTrialBehind_24 : decode cX4_scoreOfTrialBehind 24 = .ok (.aload_n 0, 1) := by decide +kernel
theorem dX4_scoreOfTrialBehind_25 : decode cX4_scoreOfTrialBehind 25 = .ok (.getfield 26, 3) := by decide +kernel
theorem dX4_scoreOfTrialBehind_28 : decode cX4_scoreOfTrialBehind 28 = .ok (.invokevirtual 205, 3) := by decide +kernel
theorem dX4_scoreOfTrialBehind_31 : decode cX4_scoreOfTrialBehind 31 = .ok (.iadd, 1) := by decide +kernel
theorem dX4_scoreOfTrialBehind_32 : decode cX4_scoreOfTrialBehind 32 = .ok (.ireturn, 1) := by decide +kernel
theorem dX5_init_0 : decode cX5_init 0 = .ok (.aload_n 0, 1) := by decide +kernel
theorem dX5_init_1 : decode cX5_init 1 = .ok (.invokespecial 3, 3) := by decide +kernel
theorem dX5_init_4 : decode cX5_init 4 = .ok (.aload_n 0, 1) := by decide +kernel
theorem dX5_init_5 : decode cX5_init 5 = .ok (.bipush 40, 2) := by decide +kernel
theorem dX5_init_7 : decode cX5_init 7 = .ok (.newarray .int, 2) := by decide +kernel
theorem dX5_init_9 : decode cX5_init 9 = .ok (.putfield 9, 3) := by decide +kernel
theorem dX5_init_12 : decode cX5_init 12 = .ok (.aload_n 0, 1) := by decide +kernel
theorem dX5_init_13 : decode cX5_init 13 = .ok (.bipush 40, 2) := by decide +kernel
theorem dX5_init_15 : decode cX5_init 15 = .ok (.newarray .int, 2) := by decide +kernel
theorem dX5_init_17 : decode cX5_init 17 = .ok (.putfield 15, 3) := by decide +kernel
theorem dX5_init_20 : decode cX5_init 20 = .ok (.aload_n 0, 1) := by decide +kernel
theorem dX5_init_21 : decode cX5_init 21 = .ok (.bipush 40, 2) := by decide +kernel
theorem dX5_init_23 : decode cX5_init 23 = .ok (.newarray .int, 2) := by decide +kernel
theorem dX5_init_25 : decode cX5_init 25 = .ok (.putfield 18, 3) := by decide +kernel
theorem dX5_init_28 : decode cX5_init 28 = .ok (.aload_n 0, 1) := by decide +kernel
theorem dX5_init_29 : decode cX5_init 29 = .ok (.bipush 40, 2) := by decide +kernel
theorem dX5_init_31 : decode cX5_init 31 = .ok (.newarray .int, 2) := by decide +kernel
theorem dX5_init_33 : decode cX5_init 33 = .ok (.putfield 21, 3) := by decide +kernel
theorem dX5_init_36 : decode cX5_init 36 = .ok (.aload_n 0, 1) := by decide +kernel
theorem dX5_init_37 : decode cX5_init 37 = .ok (.bipush 40, 2) := by decide +kernel
theorem dX5_init_39 : decode cX5_init 39 = .ok (.newarray .int, 2) := by decide +kernel
theorem dX5_init_41 : decode cX5_init 41 = .ok (.putfield 24, 3) := by decide +kernel
theorem dX5_init_44 : decode cX5_init 44 = .ok (.iconst 0, 1) := by decide +kernel
theorem dX5_init_45 : decode cX5_init 45 = .ok (.istore_n 1, 1) := by decide +kernel
theorem dX5_init_46 : decode cX5_init 46 = .ok (.iload_n 1, 1) := by decide +kernel
theorem dX5_init_47 : decode cX5_init 47 = .ok (.bipush 40, 2) := by decide +kernel
theorem dX5_init_49 : decode cX5_init 49 = .ok (.if_icmp .ge 16, 3) := by decide +kernel
theorem dX5_init_52 : decode cX5_init 52 = .ok (.aload_n 0, 1) := by decide +kernel
theorem dX5_init_53 : decode cX5_init 53 = .ok (.getfield 9, 3) := by decide +kernel
theorem dX5_init_56 : decode cX5_init 56 = .ok (.iload_n 1, 1) := by decide +kernel
theorem dX5_init_57 : decode cX5_init 57 = .ok (.iconst (-1), 1) := by decide +kernel
theorem dX5_init_58 : decode cX5_init 58 = .ok (.iastore, 1) := by decide +kernel
theorem dX5_init_59 : decode cX5_init 59 = .ok (.iinc 1 1, 3) := by decide +kernel
theorem dX5_init_62 : decode cX5_init 62 = .ok (.goto (-16), 3) := by decide +kernel
theorem dX5_init_65 : decode cX5_init 65 = .ok (.return_, 1) := by decide +kernel
theorem dX5_copy_0 : decode cX5_copy 0 = .ok (.aload_n 0, 1) := by decide +kernel
theorem dX5_copy_1 : decode cX5_copy 1 = .ok (.iconst 0, 1) := by decide +kernel
theorem dX5_copy_2 : decode cX5_copy 2 = .ok (.aload_n 1, 1) := by decide +kernel
theorem dX5_copy_3 : decode cX5_copy 3 = .ok (.iconst 0, 1) := by decide +kernel
theorem dX5_copy_4 : decode cX5_copy 4 = .ok (.bipush 40, 2) := by decide +kernel
theorem dX5_copy_6 : decode cX5_copy 6 = .ok (.invokestatic 27, 3) := by decide +kernel
theorem dX5_copy_9 : decode cX5_copy 9 = .ok (.return_, 1) := by decide +kernel
theorem dX5_become_0 : decode cX5_become 0 = .ok (.aload_n 0, 1) := by decide +kernel
theorem dX5_become_1 : decode cX5_become 1 = .ok (.aload_n 1, 1) := by decide +kernel
theorem dX5_become_2 : decode cX5_become 2 = .ok (.getfield 33, 3) := by decide +kernel
theorem dX5_become_5 : decode cX5_become 5 = .ok (.putfield 33, 3) := by decide +kernel
theorem dX5_become_8 : decode cX5_become 8 = .ok (.aload_n 1, 1) := by decide +kernel
theorem dX5_become_9 : decode cX5_become 9 = .ok (.getfield 9, 3) := by decide +kernel
theorem dX5_become_12 : decode cX5_become 12 = .ok (.aload_n 0, 1) := by decide +kernel
theorem dX5_become_13 : decode cX5_become 13 = .ok (.getfield 9, 3) := by decide +kernel
theorem dX5_become_16 : decode cX5_become 16 = .ok (.invokestatic 37, 3) := by decide +kernel
theorem dX5_become_19 : decode cX5_become 19 = .ok (.aload_n 1, 1) := by decide +kernel
theorem dX5_become_20 : decode cX5_become 20 = .ok (.getfield 15, 3) := by decide +kernel
theorem dX5_become_23 : decode cX5_become 23 = .ok (.aload_n 0, 1) := by decide +kernel
theorem dX5_become_24 : decode cX5_become 24 = .ok (.getfield 15, 3) := by decide +kernel
theorem dX5_become_27 : decode cX5_become 27 = .ok (.invokestatic 37, 3) := by decide +kernel
theorem dX5_become_30 : decode cX5_become 30 = .ok (.aload_n 1, 1) := by decide +kernel
theorem dX5_become_31 : decode cX5_become 31 = .ok (.getfield 18, 3) := by decide +kernel
theorem dX5_become_34 : decode cX5_become 34 = .ok (.aload_n 0, 1) := by decide +kernel
theorem dX5_become_35 : decode cX5_become 35 = .ok (.getfield 18, 3) := by decide +kernel
theorem dX5_become_38 : decode cX5_become 38 = .ok (.invokestatic 37, 3) := by decide +kernel
theorem dX5_become_41 : decode cX5_become 41 = .ok (.aload_n 1, 1) := by decide +kernel
theorem dX5_become_42 : decode cX5_become 42 = .ok (.getfield 21, 3) := by decide +kernel
theorem dX5_become_45 : decode cX5_become 45 = .ok (.aload_n 0, 1) := by decide +kernel
theorem dX5_become_46 : decode cX5_become 46 = .ok (.getfield 21, 3) := by decide +kernel
theorem dX5_become_49 : decode cX5_become 49 = .ok (.invokestatic 37, 3) := by decide +kernel
theorem dX5_become_52 : decode cX5_become 52 = .ok (.aload_n 1, 1) := by decide +kernel
theorem dX5_become_53 : decode cX5_become 53 = .ok (.getfield 24, 3) := by decide +kernel
theorem dX5_become_56 : decode cX5_become 56 = .ok (.aload_n 0, 1) := by decide +kernel
theorem dX5_become_57 : decode cX5_become 57 = .ok (.getfield 24, 3) := by decide +kernel
theorem dX5_become_60 : decode cX5_become 60 = .ok (.invokestatic 37, 3) := by decide +kernel
theorem dX5_become_63 : decode cX5_become 63 = .ok (.return_, 1) := by decide +kernel
theorem dX5_hangs_0 : decode cX5_hangs 0 = .ok (.aload_n 0, 1) := by decide +kernel
theorem dX5_hangs_1 : decode cX5_hangs 1 = .ok (.getfield 9, 3) := by decide +kernel
theorem dX5_hangs_4 : decode cX5_hangs 4 = .ok (.iload_n 1, 1) := by decide +kernel
theorem dX5_hangs_5 : decode cX5_hangs 5 = .ok (.iaload, 1) := by decide +kernel
theorem dX5_hangs_6 : decode cX5_hangs 6 = .ok (.iconst (-1), 1) := by decide +kernel
theorem dX5_hangs_7 : decode cX5_hangs 7 = .ok (.if_icmp .eq 7, 3) := by decide +kernel
theorem dX5_hangs_10 : decode cX5_hangs 10 = .ok (.iconst 1, 1) := by decide +kernel
theorem dX5_hangs_11 : decode cX5_hangs 11 = .ok (.goto 4, 3) := by decide +kernel
theorem dX5_hangs_14 : decode cX5_hangs 14 = .ok (.iconst 0, 1) := by decide +kernel
theorem dX5_hangs_15 : decode cX5_hangs 15 = .ok (.ireturn, 1) := by decide +kernel
theorem dX5_wetness_0 : decode cX5_wetness 0 = .ok (.aload_n 0, 1) := by decide +kernel
theorem dX5_wetness_1 : decode cX5_wetness 1 = .ok (.getfield 15, 3) := by decide +kernel
theorem dX5_wetness_4 : decode cX5_wetness 4 = .ok (.iload_n 1, 1) := by decide +kernel
theorem dX5_wetness_5 : decode cX5_wetness 5 = .ok (.iaload, 1) := by decide +kernel
theorem dX5_wetness_6 : decode cX5_wetness 6 = .ok (.aload_n 0, 1) := by decide +kernel
theorem dX5_wetness_7 : decode cX5_wetness 7 = .ok (.getfield 18, 3) := by decide +kernel
theorem dX5_wetness_10 : decode cX5_wetness 10 = .ok (.iload_n 1, 1) := by decide +kernel
theorem dX5_wetness_11 : decode cX5_wetness 11 = .ok (.iaload, 1) := by decide +kernel
theorem dX5_wetness_12 : decode cX5_wetness 12 = .ok (.iadd, 1) := by decide +kernel
theorem dX5_wetness_13 : decode cX5_wetness 13 = .ok (.iconst 2, 1) := by decide +kernel
theorem dX5_wetness_14 : decode cX5_wetness 14 = .ok (.idiv, 1) := by decide +kernel
theorem dX5_wetness_15 : decode cX5_wetness 15 = .ok (.ireturn, 1) := by decide +kernel
theorem dX5_beside_0 : decode cX5_beside 0 = .ok (.iload_n 1, 1) := by decide +kernel
theorem dX5_beside_1 : decode cX5_beside 1 = .ok (.bipush 8, 2) := by decide +kernel
theorem dX5_beside_3 : decode cX5_beside 3 = .ok (.irem, 1) := by decide +kernel
theorem dX5_beside_4 : decode cX5_beside 4 = .ok (.iload_n 2, 1) := by decide +kernel
theorem dX5_beside_5 : decode cX5_beside 5 = .ok (.iadd, 1) := by decide +kernel
theorem dX5_beside_6 : decode cX5_beside 6 = .ok (.istore_n 3, 1) := by decide +kernel
theorem dX5_beside_7 : decode cX5_beside 7 = .ok (.iload_n 3, 1) := by decide +kernel
theorem dX5_beside_8 : decode cX5_beside 8 = .ok (.iconst 0, 1) := by decide +kernel
theorem dX5_beside_9 : decode cX5_beside 9 = .ok (.bipush 7, 2) := by decide +kernel
theorem dX5_beside_11 : decode cX5_beside 11 = .ok (.invokestatic 41, 3) := by decide +kernel
theorem dX5_beside_14 : decode cX5_beside 14 = .ok (.ifCond .eq 19, 3) := by decide +kernel
theorem dX5_beside_17 : decode cX5_beside 17 = .ok (.aload_n 0, 1) := by decide +kernel
theorem dX5_beside_18 : decode cX5_beside 18 = .ok (.iload_n 1, 1) := by decide +kernel
theorem dX5_beside_19 : decode cX5_beside 19 = .ok (.iload_n 2, 1) := by decide +kernel
theorem dX5_beside_20 : decode cX5_beside 20 = .ok (.iadd, 1) := by decide +kernel
theorem dX5_beside_21 : decode cX5_beside 21 = .ok (.invokevirtual 45, 3) := by decide +kernel
theorem dX5_beside_24 : decode cX5_beside 24 = .ok (.ifCond .eq 9, 3) := by decide +kernel
theorem dX5_beside_27 : decode cX5_beside 27 = .ok (.iload_n 1, 1) := by decide +kernel
theorem dX5_beside_28 : decode cX5_beside 28 = .ok (.iload_n 2, 1) := by decide +kernel
theorem dX5_beside_29 : decode cX5_beside 29 = .ok (.iadd, 1) := by decide +kernel
theorem dX5_beside_30 : decode cX5_beside 30 = .ok (.goto 4, 3) := by decide +kernel
theorem dX5_beside_33 : decode cX5_beside 33 = .ok (.iconst (-1), 1) := by decide +kernel
theorem dX5_beside_34 : decode cX5_beside 34 = .ok (.ireturn, 1) := by decide +kernel
theorem dX5_neighbours_0 : decode cX5_neighbours 0 = .ok (.aload_n 0, 1) := by decide +kernel
theorem dX5_neighbours_1 : decode cX5_neighbours 1 = .ok (.iload_n 1, 1) := by decide +kernel
theorem dX5_neighbours_2 : decode cX5_neighbours 2 = .ok (.iconst (-1), 1) := by decide +kernel
theorem dX5_neighbours_3 : decode cX5_neighbours 3 = .ok (.invokevirtual 49, 3) := by decide +kernel
theorem dX5_neighbours_6 : decode cX5_neighbours 6 = .ok (.iconst (-1), 1) := by decide +kernel
theorem dX5_neighbours_7 : decode cX5_neighbours 7 = .ok (.if_icmp .ne 7, 3) := by decide +kernel
theorem dX5_neighbours_10 : decode cX5_neighbours 10 = .ok (.iconst 0, 1) := by decide +kernel
theorem dX5_neighbours_11 : decode cX5_neighbours 11 = .ok (.goto 4, 3) := by decide +kernel
theorem dX5_neighbours_14 : decode cX5_neighbours 14 = .ok (.iconst 1, 1) := by decide +kernel
theorem dX5_neighbours_15 : decode cX5_neighbours 15 = .ok (.aload_n 0, 1) := by decide +kernel
theorem dX5_neighbours_16 : decode cX5_neighbours 16 = .ok (.iload_n 1, 1) := by decide +kernel
theorem dX5_neighbours_17 : decode cX5_neighbours 17 = .ok (.iconst 1, 1) := by decide +kernel
theorem dX5_neighbours_18 : decode cX5_neighbours 18 = .ok (.invokevirtual 49, 3) := by decide +kernel
theorem dX5_neighbours_21 : decode cX5_neighbours 21 = .ok (.iconst (-1), 1) := by decide +kernel
theorem dX5_neighbours_22 : decode cX5_neighbours 22 = .ok (.if_icmp .ne 7, 3) := by decide +kernel
theorem dX5_neighbours_25 : decode cX5_neighbours 25 = .ok (.iconst 0, 1) := by decide +kernel
theorem dX5_neighbours_26 : decode cX5_neighbours 26 = .ok (.goto 4, 3) := by decide +kernel
theorem dX5_neighbours_29 : decode cX5_neighbours 29 = .ok (.iconst 1, 1) := by decide +kernel
theorem dX5_neighbours_30 : decode cX5_neighbours 30 = .ok (.iadd, 1) := by decide +kernel
theorem dX5_neighbours_31 : decode cX5_neighbours 31 = .ok (.ireturn, 1) := by decide +kernel
theorem dX5_isWetter_0 : decode cX5_isWetter 0 = .ok (.iload_n 1, 1) := by decide +kernel
theorem dX5_isWetter_1 : decode cX5_isWetter 1 = .ok (.iconst (-1), 1) := by decide +kernel
theorem dX5_isWetter_2 : decode cX5_isWetter 2 = .ok (.if_icmp .eq 20, 3) := by decide +kernel
theorem dX5_isWetter_5 : decode cX5_isWetter 5 = .ok (.aload_n 0, 1) := by decide +kernel
theorem dX5_isWetter_6 : decode cX5_isWetter 6 = .ok (.iload_n 1, 1) := by decide +kernel
theorem dX5_isWetter_7 : decode cX5_isWetter 7 = .ok (.invokevirtual 53, 3) := by decide +kernel
theorem dX5_isWetter_10 : decode cX5_isWetter 10 = .ok (.aload_n 0, 1) := by decide +kernel
theorem dX5_isWetter_11 : decode cX5_isWetter 11 = .ok (.iload_n 2, 1) := by decide +kernel
theorem dX5_isWetter_12 : decode cX5_isWetter 12 = .ok (.invokevirtual 53, 3) := by decide +kernel
theorem dX5_isWetter_15 : decode cX5_isWetter 15 = .ok (.if_icmp .le 7, 3) := by decide +kernel
theorem dX5_isWetter_18 : decode cX5_isWetter 18 = .ok (.iconst 1, 1) := by decide +kernel
theorem dX5_isWetter_19 : decode cX5_isWetter 19 = .ok (.goto 4, 3) := by decide +kernel
theorem dX5_isWetter_22 : decode cX5_isWetter 22 = .ok (.iconst 0, 1) := by decide +kernel
theorem dX5_isWetter_23 : decode cX5_isWetter 23 = .ok (.ireturn, 1) := by decide +kernel
theorem dX5_wetter_0 : decode cX5_wetter 0 = .ok (.aload_n 0, 1) := by decide +kernel
theorem dX5_wetter_1 : decode cX5_wetter 1 = .ok (.aload_n 0, 1) := by decide +kernel
theorem dX5_wetter_2 : decode cX5_wetter 2 = .ok (.iload_n 1, 1) := by decide +kernel
theorem dX5_wetter_3 : decode cX5_wetter 3 = .ok (.iconst (-1), 1) := by decide +kernel
theorem dX5_wetter_4 : decode cX5_wetter 4 = .ok (.invokevirtual 49, 3) := by decide +kernel
theorem dX5_wetter_7 : decode cX5_wetter 7 = .ok (.iload_n 1, 1) := by decide +kernel
theorem dX5_wetter_8 : decode cX5_wetter 8 = .ok (.invokevirtual 57, 3) := by decide +kernel
theorem dX5_wetter_11 : decode cX5_wetter 11 = .ok (.aload_n 0, 1) := by decide +kernel
theorem dX5_wetter_12 : decode cX5_wetter 12 = .ok (.aload_n 0, 1) := by decide +kernel
theorem dX5_wetter_13 : decode cX5_wetter 13 = .ok (.iload_n 1, 1) := by decide +kernel
theorem dX5_wetter_14 : decode cX5_wetter 14 = .ok (.iconst 1, 1) := by decide +kernel
theorem dX5_wetter_15 : decode cX5_wetter 15 = .ok (.invokevirtual 49, 3) := by decide +kernel
theorem dX5_wetter_18 : decode cX5_wetter 18 = .ok (.iload_n 1, 1) := by decide +kernel
theorem dX5_wetter_19 : decode cX5_wetter 19 = .ok (.invokevirtual 57, 3) := by decide +kernel
theorem dX5_wetter_22 : decode cX5_wetter 22 = .ok (.iadd, 1) := by decide +kernel
theorem dX5_wetter_23 : decode cX5_wetter 23 = .ok (.ireturn, 1) := by decide +kernel
theorem dX5_isBad_0 : decode cX5_isBad 0 = .ok (.iload_n 1, 1) := by decide +kernel
theorem dX5_isBad_1 : decode cX5_isBad 1 = .ok (.iconst (-1), 1) := by decide +kernel
theorem dX5_isBad_2 : decode cX5_isBad 2 = .ok (.if_icmp .eq 17, 3) := by decide +kernel
theorem dX5_isBad_5 : decode cX5_isBad 5 = .ok (.aload_n 0, 1) := by decide +kernel
theorem dX5_isBad_6 : decode cX5_isBad 6 = .ok (.getfield 24, 3) := by decide +kernel
theorem dX5_isBad_9 : decode cX5_isBad 9 = .ok (.iload_n 1, 1) := by decide +kernel
theorem dX5_isBad_10 : decode cX5_isBad 10 = .ok (.iaload, 1) := by decide +kernel
theorem dX5_isBad_11 : decode cX5_isBad 11 = .ok (.iconst 3, 1) := by decide +kernel
theorem dX5_isBad_12 : decode cX5_isBad 12 = .ok (.if_icmp .lt 7, 3) := by decide +kernel
theorem dX5_isBad_15 : decode cX5_isBad 15 = .ok (.iconst 1, 1) := by decide +kernel
theorem dX5_isBad_16 : decode cX5_isBad 16 = .ok (.goto 4, 3) := by decide +kernel
theorem dX5_isBad_19 : decode cX5_isBad 19 = .ok (.iconst 0, 1) := by decide +kernel
theorem dX5_isBad_20 : decode cX5_isBad 20 = .ok (.ireturn, 1) := by decide +kernel
theorem dX5_isBesideBad_0 : decode cX5_isBesideBad 0 = .ok (.aload_n 0, 1) := by decide +kernel
theorem dX5_isBesideBad_1 : decode cX5_isBesideBad 1 = .ok (.aload_n 0, 1) := by decide +kernel
theorem dX5_isBesideBad_2 : decode cX5_isBesideBad 2 = .ok (.iload_n 1, 1) := by decide +kernel
theorem dX5_isBesideBad_3 : decode cX5_isBesideBad 3 = .ok (.iconst (-1), 1) := by decide +kernel
theorem dX5_isBesideBad_4 : decode cX5_isBesideBad 4 = .ok (.invokevirtual 49, 3) := by decide +kernel
theorem dX5_isBesideBad_7 : decode cX5_isBesideBad 7 = .ok (.invokevirtual 60, 3) := by decide +kernel
theorem dX5_isBesideBad_10 : decode cX5_isBesideBad 10 = .ok (.ifCond .ne 16, 3) := by decide +kernel
theorem dX5_isBesideBad_13 : decode cX5_isBesideBad 13 = .ok (.aload_n 0, 1) := by decide +kernel
theorem dX5_isBesideBad_14 : decode cX5_isBesideBad 14 = .ok (.aload_n 0, 1) := by decide +kernel
theorem dX5_isBesideBad_15 : decode cX5_isBesideBad 15 = .ok (.iload_n 1, 1) := by decide +kernel
theorem dX5_isBesideBad_16 : decode cX5_isBesideBad 16 = .ok (.iconst 1, 1) := by decide +kernel
theorem dX5_isBesideBad_17 : decode cX5_isBesideBad 17 = .ok (.invokevirtual 49, 3) := by decide +kernel
theorem dX5_isBesideBad_20 : decode cX5_isBesideBad 20 = .ok (.invokevirtual 60, 3) := by decide +kernel
theorem dX5_isBesideBad_23 : decode cX5_isBesideBad 23 = .ok (.ifCond .eq 7, 3) := by decide +kernel
theorem dX5_isBesideBad_26 : decode cX5_isBesideBad 26 = .ok (.iconst 1, 1) := by decide +kernel
theorem dX5_isBesideBad_27 : decode cX5_isBesideBad 27 = .ok (.goto 4, 3) := by decide +kernel
theorem dX5_isBesideBad_30 : decode cX5_isBesideBad 30 = .ok (.iconst 0, 1) := by decide +kernel
theorem dX5_isBesideBad_31 : decode cX5_isBesideBad 31 = .ok (.ireturn, 1) := by decide +kernel
theorem dX5_turn_0 : decode cX5_turn 0 = .ok (.bipush 8, 2) := by decide +kernel
theorem dX5_turn_2 : decode cX5_turn 2 = .ok (.iload_n 1, 1) := by decide +kernel
theorem dX5_turn_3 : decode cX5_turn 3 = .ok (.imul, 1) := by decide +kernel
theorem dX5_turn_4 : decode cX5_turn 4 = .ok (.istore_n 2, 1) := by decide +kernel
theorem dX5_turn_5 : decode cX5_turn 5 = .ok (.iload_n 2, 1) := by decide +kernel
theorem dX5_turn_6 : decode cX5_turn 6 = .ok (.bipush 8, 2) := by decide +kernel
theorem dX5_turn_8 : decode cX5_turn 8 = .ok (.iload_n 1, 1) := by decide +kernel
theorem dX5_turn_9 : decode cX5_turn 9 = .ok (.iconst 1, 1) := by decide +kernel
theorem dX5_turn_10 : decode cX5_turn 10 = .ok (.iadd, 1) := by decide +kernel
theorem dX5_turn_11 : decode cX5_turn 11 = .ok (.imul, 1) := by decide +kernel
theorem dX5_turn_12 : decode cX5_turn 12 = .ok (.if_icmp .ge 35, 3) := by decide +kernel
theorem dX5_turn_15 : decode cX5_turn 15 = .ok (.aload_n 0, 1) := by decide +kernel
theorem dX5_turn_16 : decode cX5_turn 16 = .ok (.getfield 15, 3) := by decide +kernel
theorem dX5_turn_19 : decode cX5_turn 19 = .ok (.iload_n 2, 1) := by decide +kernel
theorem dX5_turn_20 : decode cX5_turn 20 = .ok (.iaload, 1) := by decide +kernel
theorem dX5_turn_21 : decode cX5_turn 21 = .ok (.istore_n 3, 1) := by decide +kernel
theorem dX5_turn_22 : decode cX5_turn 22 = .ok (.aload_n 0, 1) := by decide +kernel
theorem dX5_turn_23 : decode cX5_turn 23 = .ok (.getfield 15, 3) := by decide +kernel
theorem dX5_turn_26 : decode cX5_turn 26 = .ok (.iload_n 2, 1) := by decide +kernel
theorem dX5_turn_27 : decode cX5_turn 27 = .ok (.aload_n 0, 1) := by decide +kernel
theorem dX5_turn_28 : decode cX5_turn 28 = .ok (.getfield 18, 3) := by decide +kernel
theorem dX5_turn_31 : decode cX5_turn 31 = .ok (.iload_n 2, 1) := by decide +kernel
theorem dX5_turn_32 : decode cX5_turn 32 = .ok (.iaload, 1) := by decide +kernel
theorem dX5_turn_33 : decode cX5_turn 33 = .ok (.iastore, 1) := by decide +kernel
theorem dX5_turn_34 : decode cX5_turn 34 = .ok (.aload_n 0, 1) := by decide +kernel
theorem dX5_turn_35 : decode cX5_turn 35 = .ok (.getfield 18, 3) := by decide +kernel
theorem dX5_turn_38 : decode cX5_turn 38 = .ok (.iload_n 2, 1) := by decide +kernel
theorem dX5_turn_39 : decode cX5_turn 39 = .ok (.iload_n 3, 1) := by decide +kernel
theorem dX5_turn_40 : decode cX5_turn 40 = .ok (.iastore, 1) := by decide +kernel
theorem dX5_turn_41 : decode cX5_turn 41 = .ok (.iinc 2 1, 3) := by decide +kernel
theorem dX5_turn_44 : decode cX5_turn 44 = .ok (.goto (-39), 3) := by decide +kernel
theorem dX5_turn_47 : decode cX5_turn 47 = .ok (.return_, 1) := by decide +kernel
theorem dX5_lay_0 : decode cX5_lay 0 = .ok (.aload_n 0, 1) := by decide +kernel
theorem dX5_lay_1 : decode cX5_lay 1 = .ok (.getfield 9, 3) := by decide +kernel
theorem dX5_lay_4 : decode cX5_lay 4 = .ok (.iload_n 2, 1) := by decide +kernel
theorem dX5_lay_5 : decode cX5_lay 5 = .ok (.aload_n 0, 1) := by decide +kernel
theorem dX5_lay_6 : decode cX5_lay 6 = .ok (.getfield 9, 3) := by decide +kernel
theorem dX5_lay_9 : decode cX5_lay 9 = .ok (.iload_n 1, 1) := by decide +kernel
theorem dX5_lay_10 : decode cX5_lay 10 = .ok (.iaload, 1) := by decide +kernel
theorem dX5_lay_11 : decode cX5_lay 11 = .ok (.iastore, 1) := by decide +kernel
theorem dX5_lay_12 : decode cX5_lay 12 = .ok (.aload_n 0, 1) := by decide +kernel
theorem dX5_lay_13 : decode cX5_lay 13 = .ok (.getfield 15, 3) := by decide +kernel
theorem dX5_lay_16 : decode cX5_lay 16 = .ok (.iload_n 2, 1) := by decide +kernel
theorem dX5_lay_17 : decode cX5_lay 17 = .ok (.aload_n 0, 1) := by decide +kernel
theorem dX5_lay_18 : decode cX5_lay 18 = .ok (.getfield 15, 3) := by decide +kernel
theorem dX5_lay_21 : decode cX5_lay 21 = .ok (.iload_n 1, 1) := by decide +kernel
theorem dX5_lay_22 : decode cX5_lay 22 = .ok (.iaload, 1) := by decide +kernel
theorem dX5_lay_23 : decode cX5_lay 23 = .ok (.iastore, 1) := by decide +kernel
theorem dX5_lay_24 : decode cX5_lay 24 = .ok (.aload_n 0, 1) := by decide +kernel
theorem dX5_lay_25 : decode cX5_lay 25 = .ok (.getfield 18, 3) := by decide +kernel
theorem dX5_lay_28 : decode cX5_lay 28 = .ok (.iload_n 2, 1) := by decide +kernel
theorem dX5_lay_29 : decode cX5_lay 29 = .ok (.aload_n 0, 1) := by decide +kernel
theorem dX5_lay_30 : decode cX5_lay 30 = .ok (.getfield 18, 3) := by decide +kernel
theorem dX5_lay_33 : decode cX5_lay 33 = .ok (.iload_n 1, 1) := by decide +kernel
theorem dX5_lay_34 : decode cX5_lay 34 = .ok (.iaload, 1) := by decide +kernel
theorem dX5_lay_35 : decode cX5_lay 35 = .ok (.iastore, 1) := by decide +kernel
theorem dX5_lay_36 : decode cX5_lay 36 = .ok (.aload_n 0, 1) := by decide +kernel
theorem dX5_lay_37 : decode cX5_lay 37 = .ok (.getfield 21, 3) := by decide +kernel
theorem dX5_lay_40 : decode cX5_lay 40 = .ok (.iload_n 2, 1) := by decide +kernel
theorem dX5_lay_41 : decode cX5_lay 41 = .ok (.aload_n 0, 1) := by decide +kernel
theorem dX5_lay_42 : decode cX5_lay 42 = .ok (.getfield 21, 3) := by decide +kernel
theorem dX5_lay_45 : decode cX5_lay 45 = .ok (.iload_n 1, 1) := by decide +kernel
theorem dX5_lay_46 : decode cX5_lay 46 = .ok (.iaload, 1) := by decide +kernel
theorem dX5_lay_47 : decode cX5_lay 47 = .ok (.iastore, 1) := by decide +kernel
theorem dX5_lay_48 : decode cX5_lay 48 = .ok (.aload_n 0, 1) := by decide +kernel
theorem dX5_lay_49 : decode cX5_lay 49 = .ok (.getfield 24, 3) := by decide +kernel
theorem dX5_lay_52 : decode cX5_lay 52 = .ok (.iload_n 2, 1) := by decide +kernel
theorem dX5_lay_53 : decode cX5_lay 53 = .ok (.aload_n 0, 1) := by decide +kernel
theorem dX5_lay_54 : decode cX5_lay 54 = .ok (.getfield 24, 3) := by decide +kernel
theorem dX5_lay_57 : decode cX5_lay 57 = .ok (.iload_n 1, 1) := by decide +kernel
theorem dX5_lay_58 : decode cX5_lay 58 = .ok (.iaload, 1) := by decide +kernel
theorem dX5_lay_59 : decode cX5_lay 59 = .ok (.iastore, 1) := by decide +kernel
theorem dX5_lay_60 : decode cX5_lay 60 = .ok (.aload_n 0, 1) := by decide +kernel
theorem dX5_lay_61 : decode cX5_lay 61 = .ok (.getfield 9, 3) := by decide +kernel
theorem dX5_lay_64 : decode cX5_lay 64 = .ok (.iload_n 1, 1) := by decide +kernel
theorem dX5_lay_65 : decode cX5_lay 65 = .ok (.iconst (-1), 1) := by decide +kernel
theorem dX5_lay_66 : decode cX5_lay 66 = .ok (.iastore, 1) := by decide +kernel
theorem dX5_lay_67 : decode cX5_lay 67 = .ok (.return_, 1) := by decide +kernel
theorem dX5_sum_0 : decode cX5_sum 0 = .ok (.iconst 0, 1) := by decide +kernel
theorem dX5_sum_1 : decode cX5_sum 1 = .ok (.istore_n 2, 1) := by decide +kernel
theorem dX5_sum_2 : decode cX5_sum 2 = .ok (.iconst 0, 1) := by decide +kernel
theorem dX5_sum_3 : decode cX5_sum 3 = .ok (.istore_n 3, 1) := by decide +kernel
theorem dX5_sum_4 : decode cX5_sum 4 = .ok (.iload_n 3, 1) := by decide +kernel
theorem dX5_sum_5 : decode cX5_sum 5 = .ok (.bipush 40, 2) := by decide +kernel
theorem dX5_sum_7 : decode cX5_sum 7 = .ok (.if_icmp .ge 56, 3) := by decide +kernel
theorem dX5_sum_10 : decode cX5_sum 10 = .ok (.aload_n 0, 1) := by decide +kernel
theorem dX5_sum_11 : decode cX5_sum 11 = .ok (.iload_n 3, 1) := by decide +kernel
theorem dX5_sum_12 : decode cX5_sum 12 = .ok (.invokevirtual 45, 3) := by decide +kernel
theorem dX5_sum_15 : decode cX5_sum 15 = .ok (.ifCond .eq 42, 3) := by decide +kernel
theorem dX5_sum_18 : decode cX5_sum 18 = .ok (.iload_n 2, 1) := by decide +kernel
theorem dX5_sum_19 : decode cX5_sum 19 = .ok (.iload_n 1, 1) := by decide +kernel
theorem dX5_sum_20 : decode cX5_sum 20 = .ok (.iconst 2, 1) := by decide +kernel
theorem dX5_sum_21 : decode cX5_sum 21 = .ok (.if_icmp .ne 7, 3) := by decide +kernel
theorem dX5_sum_24 : decode cX5_sum 24 = .ok (.iconst 1, 1) := by decide +kernel
theorem dX5_sum_25 : decode cX5_sum 25 = .ok (.goto 30, 3) := by decide +kernel
theorem dX5_sum_28 : decode cX5_sum 28 = .ok (.iload_n 1, 1) := by decide +kernel
theorem dX5_sum_29 : decode cX5_sum 29 = .ok (.iconst 3, 1) := by decide +kernel
theorem dX5_sum_30 : decode cX5_sum 30 = .ok (.if_icmp .ne 20, 3) := by decide +kernel
theorem dX5_sum_33 : decode cX5_sum 33 = .ok (.aload_n 0, 1) := by decide +kernel
theorem dX5_sum_34 : decode cX5_sum 34 = .ok (.getfield 24, 3) := by decide +kernel
theorem dX5_sum_37 : decode cX5_sum 37 = .ok (.iload_n 3, 1) := by decide +kernel
theorem dX5_sum_38 : decode cX5_sum 38 = .ok (.iaload, 1) := by decide +kernel
theorem dX5_sum_39 : decode cX5_sum 39 = .ok (.ifCond .le 7, 3) := by decide +kernel
theorem dX5_sum_42 : decode cX5_sum 42 = .ok (.iconst 1, 1) := by decide +kernel
theorem dX5_sum_43 : decode cX5_sum 43 = .ok (.goto 12, 3) := by decide +kernel
theorem dX5_sum_46 : decode cX5_sum 46 = .ok (.iconst 0, 1) := by decide +kernel
theorem dX5_sum_47 : decode cX5_sum 47 = .ok (.goto 8, 3) := by decide +kernel
theorem dX5_sum_50 : decode cX5_sum 50 = .ok (.aload_n 0, 1) := by decide +kernel
theorem dX5_sum_51 : decode cX5_sum 51 = .ok (.iload_n 3, 1) := by decide +kernel
theorem dX5_sum_52 : decode cX5_sum 52 = .ok (.invokevirtual 53, 3) := by decide +kernel
theorem dX5_sum_55 : decode cX5_sum 55 = .ok (.iadd, 1) := by decide +kernel
theorem dX5_sum_56 : decode cX5_sum 56 = .ok (.istore_n 2, 1) := by decide +kernel
theorem dX5_sum_57 : decode cX5_sum 57 = .ok (.iinc 3 1, 3) := by decide +kernel
theorem dX5_sum_60 : decode cX5_sum 60 = .ok (.goto (-56), 3) := by decide +kernel
theorem dX5_sum_63 : decode cX5_sum 63 = .ok (.iload_n 2, 1) := by decide +kernel
theorem dX5_sum_64 : decode cX5_sum 64 = .ok (.ireturn, 1) := by decide +kernel
theorem dX6_init_0 : decode cX6_init 0 = .ok (.aload_n 0, 1) := by decide +kernel
theorem dX6_init_1 : decode cX6_init 1 = .ok (.invokespecial 3, 3) := by decide +kernel
theorem dX6_init_4 : decode cX6_init 4 = .ok (.aload_n 0, 1) := by decide +kernel
theorem dX6_init_5 : decode cX6_init 5 = .ok (.bipush 6, 2) := by decide +kernel
theorem dX6_init_7 : decode cX6_init 7 = .ok (.newarray .int, 2) := by decide +kernel
theorem dX6_init_9 : decode cX6_init 9 = .ok (.putfield 9, 3) := by decide +kernel
theorem dX6_init_12 : decode cX6_init 12 = .ok (.aload_n 0, 1) := by decide +kernel
theorem dX6_init_13 : decode cX6_init 13 = .ok (.bipush 6, 2) := by decide +kernel
theorem dX6_init_15 : decode cX6_init 15 = .ok (.newarray .int, 2) := by decide +kernel
theorem dX6_init_17 : decode cX6_init 17 = .ok (.putfield 13, 3) := by decide +kernel
theorem dX6_init_20 : decode cX6_init 20 = .ok (.aload_n 0, 1) := by decide +kernel
theorem dX6_init_21 : decode cX6_init 21 = .ok (.bipush 6, 2) := by decide +kernel
theorem dX6_init_23 : decode cX6_init 23 = .ok (.newarray .int, 2) := by decide +kernel
theorem dX6_init_25 : decode cX6_init 25 = .ok (.putfield 16, 3) := by decide +kernel
theorem dX6_init_28 : decode cX6_init 28 = .ok (.aload_n 0, 1) := by decide +kernel
theorem dX6_init_29 : decode cX6_init 29 = .ok (.bipush 6, 2) := by decide +kernel
theorem dX6_init_31 : decode cX6_init 31 = .ok (.newarray .int, 2) := by decide +kernel
theorem dX6_init_33 : decode cX6_init 33 = .ok (.putfield 19, 3) := by decide +kernel
theorem dX6_init_36 : decode cX6_init 36 = .ok (.aload_n 0, 1) := by decide +kernel
theorem dX6_init_37 : decode cX6_init 37 = .ok (.bipush 6, 2) := by decide +kernel
theorem dX6_init_39 : decode cX6_init 39 = .ok (.newarray .int, 2) := by decide +kernel
theorem dX6_init_41 : decode cX6_init 41 = .ok (.putfield 22, 3) := by decide +kernel
theorem dX6_init_44 : decode cX6_init 44 = .ok (.aload_n 0, 1) := by decide +kernel
theorem dX6_init_45 : decode cX6_init 45 = .ok (.bipush 6, 2) := by decide +kernel
theorem dX6_init_47 : decode cX6_init 47 = .ok (.newarray .int, 2) := by decide +kernel
theorem dX6_init_49 : decode cX6_init 49 = .ok (.putfield 25, 3) := by decide +kernel
theorem dX6_init_52 : decode cX6_init 52 = .ok (.aload_n 0, 1) := by decide +kernel
theorem dX6_init_53 : decode cX6_init 53 = .ok (.new 28, 3) := by decide +kernel
theorem dX6_init_56 : decode cX6_init 56 = .ok (.dup, 1) := by decide +kernel
theorem dX6_init_57 : decode cX6_init 57 = .ok (.invokespecial 30, 3) := by decide +kernel
theorem dX6_init_60 : decode cX6_init 60 = .ok (.putfield 31, 3) := by decide +kernel
theorem dX6_init_63 : decode cX6_init 63 = .ok (.aload_n 0, 1) := by decide +kernel
theorem dX6_init_64 : decode cX6_init 64 = .ok (.new 28, 3) := by decide +kernel
theorem dX6_init_67 : decode cX6_init 67 = .ok (.dup, 1) := by decide +kernel
theorem dX6_init_68 : decode cX6_init 68 = .ok (.invokespecial 30, 3) := by decide +kernel
theorem dX6_init_71 : decode cX6_init 71 = .ok (.putfield 35, 3) := by decide +kernel
theorem dX6_init_74 : decode cX6_init 74 = .ok (.aload_n 0, 1) := by decide +kernel
theorem dX6_init_75 : decode cX6_init 75 = .ok (.new 28, 3) := by decide +kernel
theorem dX6_init_78 : decode cX6_init 78 = .ok (.dup, 1) := by decide +kernel
theorem dX6_init_79 : decode cX6_init 79 = .ok (.invokespecial 30, 3) := by decide +kernel
theorem dX6_init_82 : decode cX6_init 82 = .ok (.putfield 38, 3) := by decide +kernel
theorem dX6_init_85 : decode cX6_init 85 = .ok (.return_, 1) := by decide +kernel
theorem dX6_thrown_0 : decode cX6_thrown 0 = .ok (.aload_n 0, 1) := by decide +kernel
theorem dX6_thrown_1 : decode cX6_thrown 1 = .ok (.getfield 41, 3) := by decide +kernel
theorem dX6_thrown_4 : decode cX6_thrown 4 = .ok (.ireturn, 1) := by decide +kernel
theorem dX6_no_0 : decode cX6_no 0 = .ok (.aload_n 0, 1) := by decide +kernel
theorem dX6_no_1 : decode cX6_no 1 = .ok (.iload_n 1, 1) := by decide +kernel
theorem dX6_no_2 : decode cX6_no 2 = .ok (.putfield 41, 3) := by decide +kernel
theorem dX6_no_5 : decode cX6_no 5 = .ok (.iconst 0, 1) := by decide +kernel
theorem dX6_no_6 : decode cX6_no 6 = .ok (.ireturn, 1) := by decide +kernel
theorem dX6_isIn_0 : decode cX6_isIn 0 = .ok (.iload_n 0, 1) := by decide +kernel
theorem dX6_isIn_1 : decode cX6_isIn 1 = .ok (.iload_n 1, 1) := by decide +kernel
theorem dX6_isIn_2 : decode cX6_isIn 2 = .ok (.if_icmp .lt 12, 3) := by decide +kernel
theorem dX6_isIn_5 : decode cX6_isIn 5 = .ok (.iload_n 0, 1) := by decide +kernel
theorem dX6_isIn_6 : decode cX6_isIn 6 = .ok (.iload_n 2, 1) := by decide +kernel
theorem dX6_isIn_7 : decode cX6_isIn 7 = .ok (.if_icmp .gt 7, 3) := by decide +kernel
theorem dX6_isIn_10 : decode cX6_isIn 10 = .ok (.iconst 1, 1) := by decide +kernel
theorem dX6_isIn_11 : decode cX6_isIn 11 = .ok (.goto 4, 3) := by decide +kernel
theorem dX6_isIn_14 : decode cX6_isIn 14 = .ok (.iconst 0, 1) := by decide +kernel
theorem dX6_isIn_15 : decode cX6_isIn 15 = .ok (.ireturn, 1) := by decide +kernel
theorem dX6_isHook_0 : decode cX6_isHook 0 = .ok (.iload_n 0, 1) := by decide +kernel
theorem dX6_isHook_1 : decode cX6_isHook 1 = .ok (.iconst 0, 1) := by decide +kernel
theorem dX6_isHook_2 : decode cX6_isHook 2 = .ok (.iconst 4, 1) := by decide +kernel
theorem dX6_isHook_3 : decode cX6_isHook 3 = .ok (.invokestatic 45, 3) := by decide +kernel
theorem dX6_isHook_6 : decode cX6_isHook 6 = .ok (.ifCond .eq 17, 3) := by decide +kernel
theorem dX6_isHook_9 : decode cX6_isHook 9 = .ok (.iload_n 1, 1) := by decide +kernel
theorem dX6_isHook_10 : decode cX6_isHook 10 = .ok (.iconst 0, 1) := by decide +kernel
theorem dX6_isHook_11 : decode cX6_isHook 11 = .ok (.bipush 7, 2) := by decide +kernel
theorem dX6_isHook_13 : decode cX6_isHook 13 = .ok (.invokestatic 45, 3) := by decide +kernel
theorem dX6_isHook_16 : decode cX6_isHook 16 = .ok (.ifCond .eq 7, 3) := by decide +kernel
theorem dX6_isHook_19 : decode cX6_isHook 19 = .ok (.iconst 1, 1) := by decide +kernel
theorem dX6_isHook_20 : decode cX6_isHook 20 = .ok (.goto 4, 3) := by decide +kernel
theorem dX6_isHook_23 : decode cX6_isHook 23 = .ok (.iconst 0, 1) := by decide +kernel
theorem dX6_isHook_24 : decode cX6_isHook 24 = .ok (.ireturn, 1) := by decide +kernel
theorem dX6_isHerb_0 : decode cX6_isHerb 0 = .ok (.iload_n 1, 1) := by decide +kernel
theorem dX6_isHerb_1 : decode cX6_isHerb 1 = .ok (.iconst 0, 1) := by decide +kernel
theorem dX6_isHerb_2 : decode cX6_isHerb 2 = .ok (.aload_n 0, 1) := by decide +kernel
theorem dX6_isHerb_3 : decode cX6_isHerb 3 = .ok (.getfield 49, 3) := by decide +kernel
theorem dX6_isHerb_6 : decode cX6_isHerb 6 = .ok (.iconst 1, 1) := by decide +kernel
theorem dX6_isHerb_7 : decode cX6_isHerb 7 = .ok (.isub, 1) := by decide +kernel
theorem dX6_isHerb_8 : decode cX6_isHerb 8 = .ok (.invokestatic 45, 3) := by decide +kernel
theorem dX6_isHerb_11 : decode cX6_isHerb 11 = .ok (.ireturn, 1) := by decide +kernel
theorem dX6_dayOn_0 : decode cX6_dayOn 0 = .ok (.aload_n 0, 1) := by decide +kernel
theorem dX6_dayOn_1 : decode cX6_dayOn 1 = .ok (.getfield 38, 3) := by decide +kernel
theorem dX6_dayOn_4 : decode cX6_dayOn 4 = .ok (.aload_n 1, 1) := by decide +kernel
theorem dX6_dayOn_5 : decode cX6_dayOn 5 = .ok (.invokevirtual 52, 3) := by decide +kernel
theorem dX6_dayOn_8 : decode cX6_dayOn 8 = .ok (.iconst 0, 1) := by decide +kernel
theorem dX6_dayOn_9 : decode cX6_dayOn 9 = .ok (.istore_n 3, 1) := by decide +kernel
theorem dX6_dayOn_10 : decode cX6_dayOn 10 = .ok (.iload_n 3, 1) := by decide +kernel
theorem dX6_dayOn_11 : decode cX6_dayOn 11 = .ok (.bipush 40, 2) := by decide +kernel
theorem dX6_dayOn_13 : decode cX6_dayOn 13 = .ok (.if_icmp .ge 193, 3) := by decide +kernel
theorem dX6_dayOn_16 : decode cX6_dayOn 16 = .ok (.aload_n 1, 1) := by decide +kernel
theorem dX6_dayOn_17 : decode cX6_dayOn 17 = .ok (.iload_n 3, 1) := by decide +kernel
theorem dX6_dayOn_18 : decode cX6_dayOn 18 = .ok (.invokevirtual 56, 3) := by decide +kernel
theorem dX6_dayOn_21 : decode cX6_dayOn 21 = .ok (.ifCond .ne 6, 3) := by decide +kernel
theorem dX6_dayOn_24 : decode cX6_dayOn 24 = .ok (.goto 176, 3) := by decide +kernel
theorem dX6_dayOn_27 : decode cX6_dayOn 27 = .ok (.iconst 0, 1) := by decide +kernel
theorem dX6_dayOn_28 : decode cX6_dayOn 28 = .ok (.aload_n 0, 1) := by decide +kernel
theorem dX6_dayOn_29 : decode cX6_dayOn 29 = .ok (.getfield 9, 3) := by decide +kernel
theorem dX6_dayOn_32 : decode cX6_dayOn 32 = .ok (.aload_n 1, 1) := by decide +kernel
theorem dX6_dayOn_33 : decode cX6_dayOn 33 = .ok (.getfield 60, 3) := by decide +kernel
theorem dX6_dayOn_36 : decode cX6_dayOn 36 = .ok (.iload_n 3, 1) := by decide +kernel
theorem dX6_dayOn_37 : decode cX6_dayOn 37 = .ok (.iaload, 1) := by decide +kernel
theorem dX6_dayOn_38 : decode cX6_dayOn 38 = .ok (.iaload, 1) := by decide +kernel
theorem dX6_dayOn_39 : decode cX6_dayOn 39 = .ok (.iload_n 3, 1) := by decide +kernel
theorem dX6_dayOn_40 : decode cX6_dayOn 40 = .ok (.bipush 8, 2) := by decide +kernel
theorem dX6_dayOn_42 : decode cX6_dayOn 42 = .ok (.idiv, 1) := by decide +kernel
theorem dX6_dayOn_43 : decode cX6_dayOn 43 = .ok (.iadd, 1) := by decide +kernel
theorem dX6_dayOn_44 : decode cX6_dayOn 44 = .ok (.iconst 2, 1) := by decide +kernel
theorem dX6_dayOn_45 : decode cX6_dayOn 45 = .ok (.aload_n 0, 1) := by decide +kernel
theorem dX6_dayOn_46 : decode cX6_dayOn 46 = .ok (.getfield 63, 3) := by decide +kernel
theorem dX6_dayOn_49 : decode cX6_dayOn 49 = .ok (.imul, 1) := by decide +kernel
theorem dX6_dayOn_50 : decode cX6_dayOn 50 = .ok (.iadd, 1) := by decide +kernel
theorem dX6_dayOn_51 : decode cX6_dayOn 51 = .ok (.iload_n 2, 1) := by decide +kernel
theorem dX6_dayOn_52 : decode cX6_dayOn 52 = .ok (.isub, 1) := by decide +kernel
theorem dX6_dayOn_53 : decode cX6_dayOn 53 = .ok (.aload_n 0, 1) := by decide +kernel
theorem dX6_dayOn_54 : decode cX6_dayOn 54 = .ok (.getfield 38, 3) := by decide +kernel
theorem dX6_dayOn_57 : decode cX6_dayOn 57 = .ok (.iload_n 3, 1) := by decide +kernel
theorem dX6_dayOn_58 : decode cX6_dayOn 58 = .ok (.invokevirtual 66, 3) := by decide +kernel
theorem dX6_dayOn_61 : decode cX6_dayOn 61 = .ok (.isub, 1) := by decide +kernel
theorem dX6_dayOn_62 : decode cX6_dayOn 62 = .ok (.invokestatic 70, 3) := by decide +kernel
theorem dX6_dayOn_65 : decode cX6_dayOn 65 = .ok (.istore 4, 2) := by decide +kernel
theorem dX6_dayOn_67 : decode cX6_dayOn 67 = .ok (.aload_n 1, 1) := by decide +kernel
theorem dX6_dayOn_68 : decode cX6_dayOn 68 = .ok (.getfield 76, 3) := by decide +kernel
theorem dX6_dayOn_71 : decode cX6_dayOn 71 = .ok (.iload_n 3, 1) := by decide +kernel
theorem dX6_dayOn_72 : decode cX6_dayOn 72 = .ok (.iconst 0, 1) := by decide +kernel
theorem dX6_dayOn_73 : decode cX6_dayOn 73 = .ok (.aload_n 1, 1) := by decide +kernel
theorem dX6_dayOn_74 : decode cX6_dayOn 74 = .ok (.getfield 76, 3) := by decide +kernel
theorem dX6_dayOn_77 : decode cX6_dayOn 77 = .ok (.iload_n 3, 1) := by decide +kernel
theorem dX6_dayOn_78 : decode cX6_dayOn 78 = .ok (.iaload, 1) := by decide +kernel
theorem dX6_dayOn_79 : decode cX6_dayOn 79 = .ok (.iload 4, 2) := by decide +kernel
theorem dX6_dayOn_81 : decode cX6_dayOn 81 = .ok (.isub, 1) := by decide +kernel
theorem dX6_dayOn_82 : decode cX6_dayOn 82 = .ok (.invokestatic 70, 3) := by decide +kernel
theorem dX6_dayOn_85 : decode cX6_dayOn 85 = .ok (.iastore, 1) := by decide +kernel
theorem dX6_dayOn_86 : decode cX6_dayOn 86 = .ok (.aload_n 1, 1) := by decide +kernel
theorem dX6_dayOn_87 : decode cX6_dayOn 87 = .ok (.getfield 79, 3) := by decide +kernel
theorem dX6_dayOn_90 : decode cX6_dayOn 90 = .ok (.iload_n 3, 1) := by decide +kernel
theorem dX6_dayOn_91 : decode cX6_dayOn 91 = .ok (.iconst 0, 1) := by decide +kernel
theorem dX6_dayOn_92 : decode cX6_dayOn 92 = .ok (.aload_n 1, 1) := by decide +kernel
theorem dX6_dayOn_93 : decode cX6_dayOn 93 = .ok (.getfield 79, 3) := by decide +kernel
theorem dX6_dayOn_96 : decode cX6_dayOn 96 = .ok (.iload_n 3, 1) := by decide +kernel
theorem dX6_dayOn_97 : decode cX6_dayOn 97 = .ok (.iaload, 1) := by decide +kernel
theorem dX6_dayOn_98 : decode cX6_dayOn 98 = .ok (.iload 4, 2) := by decide +kernel
theorem dX6_dayOn_100 : decode cX6_dayOn 100 = .ok (.iconst 2, 1) := by decide +kernel
theorem dX6_dayOn_101 : decode cX6_dayOn 101 = .ok (.idiv, 1) := by decide +kernel
theorem dX6_dayOn_102 : decode cX6_dayOn 102 = .ok (.isub, 1) := by decide +kernel
theorem dX6_dayOn_103 : decode cX6_dayOn 103 = .ok (.invokestatic 70, 3) := by decide +kernel
theorem dX6_dayOn_106 : decode cX6_dayOn 106 = .ok (.iastore, 1) := by decide +kernel
theorem dX6_dayOn_107 : decode cX6_dayOn 107 = .ok (.aload_n 1, 1) := by decide +kernel
theorem dX6_dayOn_108 : decode cX6_dayOn 108 = .ok (.getfield 82, 3) := by decide +kernel
theorem dX6_dayOn_111 : decode cX6_dayOn 111 = .ok (.iload_n 3, 1) := by decide +kernel
theorem dX6_dayOn_112 : decode cX6_dayOn 112 = .ok (.aload_n 1, 1) := by decide +kernel
theorem dX6_dayOn_113 : decode cX6_dayOn 113 = .ok (.iload_n 3, 1) := by decide +kernel
theorem dX6_dayOn_114 : decode cX6_dayOn 114 = .ok (.invokevirtual 85, 3) := by decide +kernel
theorem dX6_dayOn_117 : decode cX6_dayOn 117 = .ok (.aload_n 0, 1) := by decide +kernel
theorem dX6_dayOn_118 : decode cX6_dayOn 118 = .ok (.getfield 13, 3) := by decide +kernel
theorem dX6_dayOn_121 : decode cX6_dayOn 121 = .ok (.aload_n 1, 1) := by decide +kernel
theorem dX6_dayOn_122 : decode cX6_dayOn 122 = .ok (.getfield 60, 3) := by decide +kernel
theorem dX6_dayOn_125 : decode cX6_dayOn 125 = .ok (.iload_n 3, 1) := by decide +kernel
theorem dX6_dayOn_126 : decode cX6_dayOn 126 = .ok (.iaload, 1) := by decide +kernel
theorem dX6_dayOn_127 : decode cX6_dayOn 127 = .ok (.iaload, 1) := by decide +kernel
theorem dX6_dayOn_128 : decode cX6_dayOn 128 = .ok (.if_icmp .le 14, 3) := by decide +kernel
theorem dX6_dayOn_131 : decode cX6_dayOn 131 = .ok (.aload_n 1, 1) := by decide +kernel
theorem dX6_dayOn_132 : decode cX6_dayOn 132 = .ok (.getfield 82, 3) := by decide +kernel
theorem dX6_dayOn_135 : decode cX6_dayOn 135 = .ok (.iload_n 3, 1) := by decide +kernel
theorem dX6_dayOn_136 : decode cX6_dayOn 136 = .ok (.iaload, 1) := by decide +kernel
theorem dX6_dayOn_137 : decode cX6_dayOn 137 = .ok (.iconst 1, 1) := by decide +kernel
theorem dX6_dayOn_138 : decode cX6_dayOn 138 = .ok (.iadd, 1) := by decide +kernel
theorem dX6_dayOn_139 : decode cX6_dayOn 139 = .ok (.goto 4, 3) := by decide +kernel
theorem dX6_dayOn_142 : decode cX6_dayOn 142 = .ok (.iconst 0, 1) := by decide +kernel
theorem dX6_dayOn_143 : decode cX6_dayOn 143 = .ok (.iastore, 1) := by decide +kernel
theorem dX6_dayOn_144 : decode cX6_dayOn 144 = .ok (.aload_n 1, 1) := by decide +kernel
theorem dX6_dayOn_145 : decode cX6_dayOn 145 = .ok (.getfield 82, 3) := by decide +kernel
theorem dX6_dayOn_148 : decode cX6_dayOn 148 = .ok (.iload_n 3, 1) := by decide +kernel
theorem dX6_dayOn_149 : decode cX6_dayOn 149 = .ok (.iaload, 1) := by decide +kernel
theorem dX6_dayOn_150 : decode cX6_dayOn 150 = .ok (.iconst 3, 1) := by decide +kernel
theorem dX6_dayOn_151 : decode cX6_dayOn 151 = .ok (.if_icmp .lt 22, 3) := by decide +kernel
theorem dX6_dayOn_154 : decode cX6_dayOn 154 = .ok (.aload_n 1, 1) := by decide +kernel
theorem dX6_dayOn_155 : decode cX6_dayOn 155 = .ok (.getfield 88, 3) := by decide +kernel
theorem dX6_dayOn_158 : decode cX6_dayOn 158 = .ok (.iload_n 3, 1) := by decide +kernel
theorem dX6_dayOn_159 : decode cX6_dayOn 159 = .ok (.bipush 9, 2) := by decide +kernel
theorem dX6_dayOn_161 : decode cX6_dayOn 161 = .ok (.aload_n 1, 1) := by decide +kernel
theorem dX6_dayOn_162 : decode cX6_dayOn 162 = .ok (.getfield 88, 3) := by decide +kernel
theorem dX6_dayOn_165 : decode cX6_dayOn 165 = .ok (.iload_n 3, 1) := by decide +kernel
theorem dX6_dayOn_166 : decode cX6_dayOn 166 = .ok (.iaload, 1) := by decide +kernel
theorem dX6_dayOn_167 : decode cX6_dayOn 167 = .ok (.iconst 1, 1) := by decide +kernel
theorem dX6_dayOn_168 : decode cX6_dayOn 168 = .ok (.iadd, 1) := by decide +kernel
theorem dX6_dayOn_169 : decode cX6_dayOn 169 = .ok (.invokestatic 91, 3) := by decide +kernel
theorem dX6_dayOn_172 : decode cX6_dayOn 172 = .ok (.iastore, 1) := by decide +kernel
theorem dX6_dayOn_173 : decode cX6_dayOn 173 = .ok (.aload_n 1, 1) := by decide +kernel
theorem dX6_dayOn_174 : decode cX6_dayOn 174 = .ok (.getfield 88, 3) := by decide +kernel
theorem dX6_dayOn_177 : decode cX6_dayOn 177 = .ok (.iload_n 3, 1) := by decide +kernel
theorem dX6_dayOn_178 : decode cX6_dayOn 178 = .ok (.iaload, 1) := by decide +kernel
theorem dX6_dayOn_179 : decode cX6_dayOn 179 = .ok (.ifCond .ne 21, 3) := by decide +kernel
theorem dX6_dayOn_182 : decode cX6_dayOn 182 = .ok (.aload_n 0, 1) := by decide +kernel
theorem dX6_dayOn_183 : decode cX6_dayOn 183 = .ok (.getfield 38, 3) := by decide +kernel
theorem dX6_dayOn_186 : decode cX6_dayOn 186 = .ok (.iload_n 3, 1) := by decide +kernel
theorem dX6_dayOn_187 : decode cX6_dayOn 187 = .ok (.invokevirtual 94, 3) := by decide +kernel
theorem dX6_dayOn_190 : decode cX6_dayOn 190 = .ok (.ifCond .eq 10, 3) := by decide +kernel
theorem dX6_dayOn_193 : decode cX6_dayOn 193 = .ok (.aload_n 1, 1) := by decide +kernel
theorem dX6_dayOn_194 : decode cX6_dayOn 194 = .ok (.getfield 88, 3) := by decide +kernel
theorem dX6_dayOn_197 : decode cX6_dayOn 197 = .ok (.iload_n 3, 1) := by decide +kernel
theorem dX6_dayOn_198 : decode cX6_dayOn 198 = .ok (.iconst 1, 1) := by decide +kernel
theorem dX6_dayOn_199 : decode cX6_dayOn 199 = .ok (.iastore, 1) := by decide +kernel
theorem dX6_dayOn_200 : decode cX6_dayOn 200 = .ok (.iinc 3 1, 3) := by decide +kernel
theorem dX6_dayOn_203 : decode cX6_dayOn 203 = .ok (.goto (-193), 3) := by decide +kernel
theorem dX6_dayOn_206 : decode cX6_dayOn 206 = .ok (.aload_n 1, 1) := by decide +kernel
theorem dX6_dayOn_207 : decode cX6_dayOn 207 = .ok (.dup, 1) := by decide +kernel
theorem dX6_dayOn_208 : decode cX6_dayOn 208 = .ok (.getfield 97, 3) := by decide +kernel
theorem dX6_dayOn_211 : decode cX6_dayOn 211 = .ok (.iconst 1, 1) := by decide +kernel
theorem dX6_dayOn_212 : decode cX6_dayOn 212 = .ok (.iadd, 1) := by decide +kernel
theorem dX6_dayOn_213 : decode cX6_dayOn 213 = .ok (.putfield 97, 3) := by decide +kernel
theorem dX6_dayOn_216 : decode cX6_dayOn 216 = .ok (.return_, 1) := by decide +kernel
theorem dX6_daysOn_0 : decode cX6_daysOn 0 = .ok (.iconst 0, 1) := by decide +kernel
theorem dX6_daysOn_1 : decode cX6_daysOn 1 = .ok (.istore 4, 2) := by decide +kernel
theorem dX6_daysOn_3 : decode cX6_daysOn 3 = .ok (.iload 4, 2) := by decide +kernel
theorem dX6_daysOn_5 : decode cX6_daysOn 5 = .ok (.iload_n 2, 1) := by decide +kernel
theorem dX6_daysOn_6 : decode cX6_daysOn 6 = .ok (.if_icmp .ge 15, 3) := by decide +kernel
theorem dX6_daysOn_9 : decode cX6_daysOn 9 = .ok (.aload_n 0, 1) := by decide +kernel
theorem dX6_daysOn_10 : decode cX6_daysOn 10 = .ok (.aload_n 1, 1) := by decide +kernel
theorem dX6_daysOn_11 : decode cX6_daysOn 11 = .ok (.iload_n 3, 1) := by decide +kernel
theorem dX6_daysOn_12 : decode cX6_daysOn 12 = .ok (.invokevirtual 100, 3) := by decide +kernel
theorem dX6_daysOn_15 : decode cX6_daysOn 15 = .ok (.iinc 4 1, 3) := by decide +kernel
theorem dX6_daysOn_18 : decode cX6_daysOn 18 = .ok (.goto (-15), 3) := by decide +kernel
theorem dX6_daysOn_21 : decode cX6_daysOn 21 = .ok (.return_, 1) := by decide +kernel
theorem dX6_herb_0 : decode cX6_herb 0 = .ok (.aload_n 0, 1) := by decide +kernel
theorem dX6_herb_1 : decode cX6_herb 1 = .ok (.iconst 0, 1) := by decide +kernel
theorem dX6_herb_2 : decode cX6_herb 2 = .ok (.putfield 41, 3) := by decide +kernel
theorem dX6_herb_5 : decode cX6_herb 5 = .ok (.iload_n 1, 1) := by decide +kernel
theorem dX6_herb_6 : decode cX6_herb 6 = .ok (.iconst 1, 1) := by decide +kernel
theorem dX6_herb_7 : decode cX6_herb 7 = .ok (.bipush 9, 2) := by decide +kernel
theorem dX6_herb_9 : decode cX6_herb 9 = .ok (.invokestatic 45, 3) := by decide +kernel
theorem dX6_herb_12 : decode cX6_herb 12 = .ok (.ifCond .eq 14, 3) := by decide +kernel
theorem dX6_herb_15 : decode cX6_herb 15 = .ok (.iload_n 2, 1) := by decide +kernel
theorem dX6_herb_16 : decode cX6_herb 16 = .ok (.bipush 20, 2) := by decide +kernel
theorem dX6_herb_18 : decode cX6_herb 18 = .ok (.bipush 90, 2) := by decide +kernel
theorem dX6_herb_20 : decode cX6_herb 20 = .ok (.invokestatic 45, 3) := by decide +kernel
theorem dX6_herb_23 : decode cX6_herb 23 = .ok (.ifCond .ne 9, 3) := by decide +kernel
theorem dX6_herb_26 : decode cX6_herb 26 = .ok (.aload_n 0, 1) := by decide +kernel
theorem dX6_herb_27 : decode cX6_herb 27 = .ok (.iconst 1, 1) := by decide +kernel
theorem dX6_herb_28 : decode cX6_herb 28 = .ok (.invokevirtual 104, 3) := by decide +kernel
theorem dX6_herb_31 : decode cX6_herb 31 = .ok (.ireturn, 1) := by decide +kernel
theorem dX6_herb_32 : decode cX6_herb 32 = .ok (.aload_n 0, 1) := by decide +kernel
theorem dX6_herb_33 : decode cX6_herb 33 = .ok (.getfield 49, 3) := by decide +kernel
theorem dX6_herb_36 : decode cX6_herb 36 = .ok (.bipush 6, 2) := by decide +kernel
theorem dX6_herb_38 : decode cX6_herb 38 = .ok (.if_icmp .ne 9, 3) := by decide +kernel
theorem dX6_herb_41 : decode cX6_herb 41 = .ok (.aload_n 0, 1) := by decide +kernel
theorem dX6_herb_42 : decode cX6_herb 42 = .ok (.iconst 2, 1) := by decide +kernel
theorem dX6_herb_43 : decode cX6_herb 43 = .ok (.invokevirtual 104, 3) := by decide +kernel
theorem dX6_herb_46 : decode cX6_herb 46 = .ok (.ireturn, 1) := by decide +kernel
theorem dX6_herb_47 : decode cX6_herb 47 = .ok (.aload_n 0, 1) := by decide +kernel
theorem dX6_herb_48 : decode cX6_herb 48 = .ok (.getfield 9, 3) := by decide +kernel
theorem dX6_herb_51 : decode cX6_herb 51 = .ok (.aload_n 0, 1) := by decide +kernel
theorem dX6_herb_52 : decode cX6_herb 52 = .ok (.getfield 49, 3) := by decide +kernel
theorem dX6_herb_55 : decode cX6_herb 55 = .ok (.iload_n 1, 1) := by decide +kernel
theorem dX6_herb_56 : decode cX6_herb 56 = .ok (.iastore, 1) := by decide +kernel
theorem dX6_herb_57 : decode cX6_herb 57 = .ok (.aload_n 0, 1) := by decide +kernel
theorem dX6_herb_58 : decode cX6_herb 58 = .ok (.getfield 13, 3) := by decide +kernel
theorem dX6_herb_61 : decode cX6_herb 61 = .ok (.aload_n 0, 1) := by decide +kernel
theorem dX6_herb_62 : decode cX6_herb 62 = .ok (.getfield 49, 3) := by decide +kernel
theorem dX6_herb_65 : decode cX6_herb 65 = .ok (.iload_n 2, 1) := by decide +kernel
theorem dX6_herb_66 : decode cX6_herb 66 = .ok (.iastore, 1) := by decide +kernel
theorem dX6_herb_67 : decode cX6_herb 67 = .ok (.aload_n 0, 1) := by decide +kernel
theorem dX6_herb_68 : decode cX6_herb 68 = .ok (.dup, 1) := by decide +kernel
theorem dX6_herb_69 : decode cX6_herb 69 = .ok (.getfield 49, 3) := by decide +kernel
theorem dX6_herb_72 : decode cX6_herb 72 = .ok (.iconst 1, 1) := by decide +kernel
theorem dX6_herb_73 : decode cX6_herb 73 = .ok (.iadd, 1) := by decide +kernel
theorem dX6_herb_74 : decode cX6_herb 74 = .ok (.putfield 49, 3) := by decide +kernel
theorem dX6_herb_77 : decode cX6_herb 77 = .ok (.aload_n 0, 1) := by decide +kernel
theorem dX6_herb_78 : decode cX6_herb 78 = .ok (.getfield 49, 3) := by decide +kernel
theorem dX6_herb_81 : decode cX6_herb 81 = .ok (.iconst 1, 1) := by decide +kernel
theorem dX6_herb_82 : decode cX6_herb 82 = .ok (.isub, 1) := by decide +kernel
theorem dX6_herb_83 : decode cX6_herb 83 = .ok (.ireturn, 1) := by decide +kernel
theorem dX6_hang_0 : decode cX6_hang 0 = .ok (.aload_n 0, 1) := by decide +kernel
theorem dX6_hang_1 : decode cX6_hang 1 = .ok (.iconst 0, 1) := by decide +kernel
theorem dX6_hang_2 : decode cX6_hang 2 = .ok (.putfield 41, 3) := by decide +kernel
theorem dX6_hang_5 : decode cX6_hang 5 = .ok (.iload_n 1, 1) := by decide +kernel
theorem dX6_hang_6 : decode cX6_hang 6 = .ok (.iload_n 2, 1) := by decide +kernel
theorem dX6_hang_7 : decode cX6_hang 7 = .ok (.invokestatic 107, 3) := by decide +kernel
theorem dX6_hang_10 : decode cX6_hang 10 = .ok (.ifCond .eq 11, 3) := by decide +kernel
theorem dX6_hang_13 : decode cX6_hang 13 = .ok (.aload_n 0, 1) := by decide +kernel
theorem dX6_hang_14 : decode cX6_hang 14 = .ok (.iload_n 3, 1) := by decide +kernel
theorem dX6_hang_15 : decode cX6_hang 15 = .ok (.invokevirtual 111, 3) := by decide +kernel
theorem dX6_hang_18 : decode cX6_hang 18 = .ok (.ifCond .ne 9, 3) := by decide +kernel
theorem dX6_hang_21 : decode cX6_hang 21 = .ok (.aload_n 0, 1) := by decide +kernel
theorem dX6_hang_22 : decode cX6_hang 22 = .ok (.iconst 1, 1) := by decide +kernel
theorem dX6_hang_23 : decode cX6_hang 23 = .ok (.invokevirtual 104, 3) := by decide +kernel
theorem dX6_hang_26 : decode cX6_hang 26 = .ok (.ireturn, 1) := by decide +kernel
theorem dX6_hang_27 : decode cX6_hang 27 = .ok (.iload 4, 2) := by decide +kernel
theorem dX6_hang_29 : decode cX6_hang 29 = .ok (.iconst 0, 1) := by decide +kernel
theorem dX6_hang_30 : decode cX6_hang 30 = .ok (.bipush 100, 2) := by decide +kernel
theorem dX6_hang_32 : decode cX6_hang 32 = .ok (.invokestatic 45, 3) := by decide +kernel
theorem dX6_hang_35 : decode cX6_hang 35 = .ok (.ifCond .ne 9, 3) := by decide +kernel
theorem dX6_hang_38 : decode cX6_hang 38 = .ok (.aload_n 0, 1) := by decide +kernel
theorem dX6_hang_39 : decode cX6_hang 39 = .ok (.iconst 2, 1) := by decide +kernel
theorem dX6_hang_40 : decode cX6_hang 40 = .ok (.invokevirtual 104, 3) := by decide +kernel
theorem dX6_hang_43 : decode cX6_hang 43 = .ok (.ireturn, 1) := by decide +kernel
theorem dX6_hang_44 : decode cX6_hang 44 = .ok (.bipush 8, 2) := by decide +kernel
theorem dX6_hang_46 : decode cX6_hang 46 = .ok (.iload_n 1, 1) := by decide +kernel
theorem dX6_hang_47 : decode cX6_hang 47 = .ok (.imul, 1) := by decide +kernel
theorem dX6_hang_48 : decode cX6_hang 48 = .ok (.iload_n 2, 1) := by decide +kernel
theorem dX6_hang_49 : decode cX6_hang 49 = .ok (.iadd, 1) := by decide +kernel
theorem dX6_hang_50 : decode cX6_hang 50 = .ok (.istore 5, 2) := by decide +kernel
theorem dX6_hang_52 : decode cX6_hang 52 = .ok (.aload_n 0, 1) := by decide +kernel
theorem dX6_hang_53 : decode cX6_hang 53 = .ok (.getfield 31, 3) := by decide +kernel
theorem dX6_hang_56 : decode cX6_hang 56 = .ok (.iload 5, 2) := by decide +kernel
theorem dX6_hang_58 : decode cX6_hang 58 = .ok (.invokevirtual 56, 3) := by decide +kernel
theorem dX6_hang_61 : decode cX6_hang 61 = .ok (.ifCond .eq 9, 3) := by decide +kernel
end
section
theorem dX6_hang_64 : decode cX6_hang 64 = .ok (.aload_n 0, 1) := by decide +kernel
theorem dX6_hang_65 : decode cX6_hang 65 = .ok (.iconst 3, 1) := by decide +kernel
theorem dX6_hang_66 : decode cX6_hang 66 = .ok (.invokevirtual 104, 3) := by decide +kernel
theorem dX6_hang_69 : decode cX6_hang 69 = .ok (.ireturn, 1) := by decide +kernel
theorem dX6_hang_70 : decode cX6_hang 70 = .ok (.aload_n 0, 1) := by decide +kernel
theorem dX6_hang_71 : decode cX6_hang 71 = .ok (.getfield 31, 3) := by decide +kernel
theorem dX6_hang_74 : decode cX6_hang 74 = .ok (.getfield 60, 3) := by decide +kernel
theorem dX6_hang_77 : decode cX6_hang 77 = .ok (.iload 5, 2) := by decide +kernel
theorem dX6_hang_79 : decode cX6_hang 79 = .ok (.iload_n 3, 1) := by decide +kernel
theorem dX6_hang_80 : decode cX6_hang 80 = .ok (.iastore, 1) := by decide +kernel
theorem dX6_hang_81 : decode cX6_hang 81 = .ok (.aload_n 0, 1) := by decide +kernel
theorem dX6_hang_82 : decode cX6_hang 82 = .ok (.getfield 31, 3) := by decide +kernel
theorem dX6_hang_85 : decode cX6_hang 85 = .ok (.getfield 76, 3) := by decide +kernel
theorem dX6_hang_88 : decode cX6_hang 88 = .ok (.iload 5, 2) := by decide +kernel
theorem dX6_hang_90 : decode cX6_hang 90 = .ok (.iload 4, 2) := by decide +kernel
theorem dX6_hang_92 : decode cX6_hang 92 = .ok (.iastore, 1) := by decide +kernel
theorem dX6_hang_93 : decode cX6_hang 93 = .ok (.aload_n 0, 1) := by decide +kernel
theorem dX6_hang_94 : decode cX6_hang 94 = .ok (.getfield 31, 3) := by decide +kernel
theorem dX6_hang_97 : decode cX6_hang 97 = .ok (.getfield 79, 3) := by decide +kernel
theorem dX6_hang_100 : decode cX6_hang 100 = .ok (.iload 5, 2) := by decide +kernel
theorem dX6_hang_102 : decode cX6_hang 102 = .ok (.iload 4, 2) := by decide +kernel
theorem dX6_hang_104 : decode cX6_hang 104 = .ok (.iastore, 1) := by decide +kernel
theorem dX6_hang_105 : decode cX6_hang 105 = .ok (.aload_n 0, 1) := by decide +kernel
theorem dX6_hang_106 : decode cX6_hang 106 = .ok (.getfield 31, 3) := by decide +kernel
theorem dX6_hang_109 : decode cX6_hang 109 = .ok (.getfield 82, 3) := by decide +kernel
theorem dX6_hang_112 : decode cX6_hang 112 = .ok (.iload 5, 2) := by decide +kernel
theorem dX6_hang_114 : decode cX6_hang 114 = .ok (.iconst 0, 1) := by decide +kernel
theorem dX6_hang_115 : decode cX6_hang 115 = .ok (.iastore, 1) := by decide +kernel
theorem dX6_hang_116 : decode cX6_hang 116 = .ok (.aload_n 0, 1) := by decide +kernel
theorem dX6_hang_117 : decode cX6_hang 117 = .ok (.getfield 31, 3) := by decide +kernel
theorem dX6_hang_120 : decode cX6_hang 120 = .ok (.getfield 88, 3) := by decide +kernel
theorem dX6_hang_123 : decode cX6_hang 123 = .ok (.iload 5, 2) := by decide +kernel
theorem dX6_hang_125 : decode cX6_hang 125 = .ok (.iconst 0, 1) := by decide +kernel
theorem dX6_hang_126 : decode cX6_hang 126 = .ok (.iastore, 1) := by decide +kernel
theorem dX6_hang_127 : decode cX6_hang 127 = .ok (.aload_n 0, 1) := by decide +kernel
theorem dX6_hang_128 : decode cX6_hang 128 = .ok (.getfield 31, 3) := by decide +kernel
theorem dX6_hang_131 : decode cX6_hang 131 = .ok (.iconst 2, 1) := by decide +kernel
theorem dX6_hang_132 : decode cX6_hang 132 = .ok (.invokevirtual 114, 3) := by decide +kernel
theorem dX6_hang_135 : decode cX6_hang 135 = .ok (.ireturn, 1) := by decide +kernel
theorem dX6_take_0 : decode cX6_take 0 = .ok (.aload_n 0, 1) := by decide +kernel
theorem dX6_take_1 : decode cX6_take 1 = .ok (.iconst 0, 1) := by decide +kernel
theorem dX6_take_2 : decode cX6_take 2 = .ok (.putfield 41, 3) := by decide +kernel
theorem dX6_take_5 : decode cX6_take 5 = .ok (.iload_n 1, 1) := by decide +kernel
theorem dX6_take_6 : decode cX6_take 6 = .ok (.iload_n 2, 1) := by decide +kernel
theorem dX6_take_7 : decode cX6_take 7 = .ok (.invokestatic 107, 3) := by decide +kernel
theorem dX6_take_10 : decode cX6_take 10 = .ok (.ifCond .ne 9, 3) := by decide +kernel
theorem dX6_take_13 : decode cX6_take 13 = .ok (.aload_n 0, 1) := by decide +kernel
theorem dX6_take_14 : decode cX6_take 14 = .ok (.iconst 1, 1) := by decide +kernel
theorem dX6_take_15 : decode cX6_take 15 = .ok (.invokevirtual 104, 3) := by decide +kernel
theorem dX6_take_18 : decode cX6_take 18 = .ok (.ireturn, 1) := by decide +kernel
theorem dX6_take_19 : decode cX6_take 19 = .ok (.bipush 8, 2) := by decide +kernel
theorem dX6_take_21 : decode cX6_take 21 = .ok (.iload_n 1, 1) := by decide +kernel
theorem dX6_take_22 : decode cX6_take 22 = .ok (.imul, 1) := by decide +kernel
theorem dX6_take_23 : decode cX6_take 23 = .ok (.iload_n 2, 1) := by decide +kernel
theorem dX6_take_24 : decode cX6_take 24 = .ok (.iadd, 1) := by decide +kernel
theorem dX6_take_25 : decode cX6_take 25 = .ok (.istore_n 3, 1) := by decide +kernel
theorem dX6_take_26 : decode cX6_take 26 = .ok (.aload_n 0, 1) := by decide +kernel
theorem dX6_take_27 : decode cX6_take 27 = .ok (.getfield 31, 3) := by decide +kernel
theorem dX6_take_30 : decode cX6_take 30 = .ok (.iload_n 3, 1) := by decide +kernel
theorem dX6_take_31 : decode cX6_take 31 = .ok (.invokevirtual 56, 3) := by decide +kernel
theorem dX6_take_34 : decode cX6_take 34 = .ok (.ifCond .ne 9, 3) := by decide +kernel
theorem dX6_take_37 : decode cX6_take 37 = .ok (.aload_n 0, 1) := by decide +kernel
theorem dX6_take_38 : decode cX6_take 38 = .ok (.iconst 2, 1) := by decide +kernel
theorem dX6_take_39 : decode cX6_take 39 = .ok (.invokevirtual 104, 3) := by decide +kernel
theorem dX6_take_42 : decode cX6_take 42 = .ok (.ireturn, 1) := by decide +kernel
theorem dX6_take_43 : decode cX6_take 43 = .ok (.aload_n 0, 1) := by decide +kernel
theorem dX6_take_44 : decode cX6_take 44 = .ok (.getfield 31, 3) := by decide +kernel
theorem dX6_take_47 : decode cX6_take 47 = .ok (.getfield 60, 3) := by decide +kernel
theorem dX6_take_50 : decode cX6_take 50 = .ok (.iload_n 3, 1) := by decide +kernel
theorem dX6_take_51 : decode cX6_take 51 = .ok (.iconst (-1), 1) := by decide +kernel
theorem dX6_take_52 : decode cX6_take 52 = .ok (.iastore, 1) := by decide +kernel
theorem dX6_take_53 : decode cX6_take 53 = .ok (.aload_n 0, 1) := by decide +kernel
theorem dX6_take_54 : decode cX6_take 54 = .ok (.getfield 31, 3) := by decide +kernel
theorem dX6_take_57 : decode cX6_take 57 = .ok (.iload_n 3, 1) := by decide +kernel
theorem dX6_take_58 : decode cX6_take 58 = .ok (.invokevirtual 85, 3) := by decide +kernel
theorem dX6_take_61 : decode cX6_take 61 = .ok (.ireturn, 1) := by decide +kernel
theorem dX6_move_0 : decode cX6_move 0 = .ok (.aload_n 0, 1) := by decide +kernel
theorem dX6_move_1 : decode cX6_move 1 = .ok (.iconst 0, 1) := by decide +kernel
theorem dX6_move_2 : decode cX6_move 2 = .ok (.putfield 41, 3) := by decide +kernel
theorem dX6_move_5 : decode cX6_move 5 = .ok (.iload_n 1, 1) := by decide +kernel
theorem dX6_move_6 : decode cX6_move 6 = .ok (.iload_n 2, 1) := by decide +kernel
theorem dX6_move_7 : decode cX6_move 7 = .ok (.invokestatic 107, 3) := by decide +kernel
theorem dX6_move_10 : decode cX6_move 10 = .ok (.ifCond .eq 12, 3) := by decide +kernel
theorem dX6_move_13 : decode cX6_move 13 = .ok (.iload_n 3, 1) := by decide +kernel
theorem dX6_move_14 : decode cX6_move 14 = .ok (.iload 4, 2) := by decide +kernel
theorem dX6_move_16 : decode cX6_move 16 = .ok (.invokestatic 107, 3) := by decide +kernel
theorem dX6_move_19 : decode cX6_move 19 = .ok (.ifCond .ne 9, 3) := by decide +kernel
theorem dX6_move_22 : decode cX6_move 22 = .ok (.aload_n 0, 1) := by decide +kernel
theorem dX6_move_23 : decode cX6_move 23 = .ok (.iconst 1, 1) := by decide +kernel
theorem dX6_move_24 : decode cX6_move 24 = .ok (.invokevirtual 104, 3) := by decide +kernel
theorem dX6_move_27 : decode cX6_move 27 = .ok (.ireturn, 1) := by decide +kernel
theorem dX6_move_28 : decode cX6_move 28 = .ok (.bipush 8, 2) := by decide +kernel
theorem dX6_move_30 : decode cX6_move 30 = .ok (.iload_n 1, 1) := by decide +kernel
theorem dX6_move_31 : decode cX6_move 31 = .ok (.imul, 1) := by decide +kernel
theorem dX6_move_32 : decode cX6_move 32 = .ok (.iload_n 2, 1) := by decide +kernel
theorem dX6_move_33 : decode cX6_move 33 = .ok (.iadd, 1) := by decide +kernel
theorem dX6_move_34 : decode cX6_move 34 = .ok (.istore 5, 2) := by decide +kernel
theorem dX6_move_36 : decode cX6_move 36 = .ok (.bipush 8, 2) := by decide +kernel
theorem dX6_move_38 : decode cX6_move 38 = .ok (.iload_n 3, 1) := by decide +kernel
theorem dX6_move_39 : decode cX6_move 39 = .ok (.imul, 1) := by decide +kernel
theorem dX6_move_40 : decode cX6_move 40 = .ok (.iload 4, 2) := by decide +kernel
theorem dX6_move_42 : decode cX6_move 42 = .ok (.iadd, 1) := by decide +kernel
theorem dX6_move_43 : decode cX6_move 43 = .ok (.istore 6, 2) := by decide +kernel
theorem dX6_move_45 : decode cX6_move 45 = .ok (.aload_n 0, 1) := by decide +kernel
theorem dX6_move_46 : decode cX6_move 46 = .ok (.getfield 31, 3) := by decide +kernel
theorem dX6_move_49 : decode cX6_move 49 = .ok (.iload 5, 2) := by decide +kernel
theorem dX6_move_51 : decode cX6_move 51 = .ok (.invokevirtual 56, 3) := by decide +kernel
theorem dX6_move_54 : decode cX6_move 54 = .ok (.ifCond .eq 15, 3) := by decide +kernel
theorem dX6_move_57 : decode cX6_move 57 = .ok (.aload_n 0, 1) := by decide +kernel
theorem dX6_move_58 : decode cX6_move 58 = .ok (.getfield 31, 3) := by decide +kernel
theorem dX6_move_61 : decode cX6_move 61 = .ok (.iload 6, 2) := by decide +kernel
theorem dX6_move_63 : decode cX6_move 63 = .ok (.invokevirtual 56, 3) := by decide +kernel
theorem dX6_move_66 : decode cX6_move 66 = .ok (.ifCond .eq 9, 3) := by decide +kernel
theorem dX6_move_69 : decode cX6_move 69 = .ok (.aload_n 0, 1) := by decide +kernel
theorem dX6_move_70 : decode cX6_move 70 = .ok (.iconst 2, 1) := by decide +kernel
theorem dX6_move_71 : decode cX6_move 71 = .ok (.invokevirtual 104, 3) := by decide +kernel
theorem dX6_move_74 : decode cX6_move 74 = .ok (.ireturn, 1) := by decide +kernel
theorem dX6_move_75 : decode cX6_move 75 = .ok (.aload_n 0, 1) := by decide +kernel
theorem dX6_move_76 : decode cX6_move 76 = .ok (.getfield 31, 3) := by decide +kernel
theorem dX6_move_79 : decode cX6_move 79 = .ok (.iload 5, 2) := by decide +kernel
theorem dX6_move_81 : decode cX6_move 81 = .ok (.iload 6, 2) := by decide +kernel
theorem dX6_move_83 : decode cX6_move 83 = .ok (.invokevirtual 117, 3) := by decide +kernel
theorem dX6_move_86 : decode cX6_move 86 = .ok (.aload_n 0, 1) := by decide +kernel
theorem dX6_move_87 : decode cX6_move 87 = .ok (.getfield 31, 3) := by decide +kernel
theorem dX6_move_90 : decode cX6_move 90 = .ok (.iload 6, 2) := by decide +kernel
theorem dX6_move_92 : decode cX6_move 92 = .ok (.invokevirtual 121, 3) := by decide +kernel
theorem dX6_move_95 : decode cX6_move 95 = .ok (.ireturn, 1) := by decide +kernel
theorem dX6_turn_0 : decode cX6_turn 0 = .ok (.aload_n 0, 1) := by decide +kernel
theorem dX6_turn_1 : decode cX6_turn 1 = .ok (.iconst 0, 1) := by decide +kernel
theorem dX6_turn_2 : decode cX6_turn 2 = .ok (.putfield 41, 3) := by decide +kernel
theorem dX6_turn_5 : decode cX6_turn 5 = .ok (.iload_n 1, 1) := by decide +kernel
theorem dX6_turn_6 : decode cX6_turn 6 = .ok (.iconst 0, 1) := by decide +kernel
theorem dX6_turn_7 : decode cX6_turn 7 = .ok (.iconst 4, 1) := by decide +kernel
theorem dX6_turn_8 : decode cX6_turn 8 = .ok (.invokestatic 45, 3) := by decide +kernel
theorem dX6_turn_11 : decode cX6_turn 11 = .ok (.ifCond .ne 9, 3) := by decide +kernel
theorem dX6_turn_14 : decode cX6_turn 14 = .ok (.aload_n 0, 1) := by decide +kernel
theorem dX6_turn_15 : decode cX6_turn 15 = .ok (.iconst 1, 1) := by decide +kernel
theorem dX6_turn_16 : decode cX6_turn 16 = .ok (.invokevirtual 104, 3) := by decide +kernel
theorem dX6_turn_19 : decode cX6_turn 19 = .ok (.ireturn, 1) := by decide +kernel
theorem dX6_turn_20 : decode cX6_turn 20 = .ok (.aload_n 0, 1) := by decide +kernel
theorem dX6_turn_21 : decode cX6_turn 21 = .ok (.getfield 31, 3) := by decide +kernel
theorem dX6_turn_24 : decode cX6_turn 24 = .ok (.iload_n 1, 1) := by decide +kernel
theorem dX6_turn_25 : decode cX6_turn 25 = .ok (.invokevirtual 124, 3) := by decide +kernel
theorem dX6_turn_28 : decode cX6_turn 28 = .ok (.iconst 0, 1) := by decide +kernel
theorem dX6_turn_29 : decode cX6_turn 29 = .ok (.istore_n 2, 1) := by decide +kernel
theorem dX6_turn_30 : decode cX6_turn 30 = .ok (.iconst 0, 1) := by decide +kernel
theorem dX6_turn_31 : decode cX6_turn 31 = .ok (.istore_n 3, 1) := by decide +kernel
theorem dX6_turn_32 : decode cX6_turn 32 = .ok (.iload_n 3, 1) := by decide +kernel
theorem dX6_turn_33 : decode cX6_turn 33 = .ok (.bipush 8, 2) := by decide +kernel
theorem dX6_turn_35 : decode cX6_turn 35 = .ok (.if_icmp .ge 33, 3) := by decide +kernel
theorem dX6_turn_38 : decode cX6_turn 38 = .ok (.iload_n 2, 1) := by decide +kernel
theorem dX6_turn_39 : decode cX6_turn 39 = .ok (.aload_n 0, 1) := by decide +kernel
theorem dX6_turn_40 : decode cX6_turn 40 = .ok (.getfield 31, 3) := by decide +kernel
theorem dX6_turn_43 : decode cX6_turn 43 = .ok (.bipush 8, 2) := by decide +kernel
theorem dX6_turn_45 : decode cX6_turn 45 = .ok (.iload_n 1, 1) := by decide +kernel
theorem dX6_turn_46 : decode cX6_turn 46 = .ok (.imul, 1) := by decide +kernel
theorem dX6_turn_47 : decode cX6_turn 47 = .ok (.iload_n 3, 1) := by decide +kernel
theorem dX6_turn_48 : decode cX6_turn 48 = .ok (.iadd, 1) := by decide +kernel
theorem dX6_turn_49 : decode cX6_turn 49 = .ok (.invokevirtual 56, 3) := by decide +kernel
theorem dX6_turn_52 : decode cX6_turn 52 = .ok (.ifCond .eq 7, 3) := by decide +kernel
theorem dX6_turn_55 : decode cX6_turn 55 = .ok (.iconst 1, 1) := by decide +kernel
theorem dX6_turn_56 : decode cX6_turn 56 = .ok (.goto 4, 3) := by decide +kernel
theorem dX6_turn_59 : decode cX6_turn 59 = .ok (.iconst 0, 1) := by decide +kernel
theorem dX6_turn_60 : decode cX6_turn 60 = .ok (.iadd, 1) := by decide +kernel
theorem dX6_turn_61 : decode cX6_turn 61 = .ok (.istore_n 2, 1) := by decide +kernel
theorem dX6_turn_62 : decode cX6_turn 62 = .ok (.iinc 3 1, 3) := by decide +kernel
theorem dX6_turn_65 : decode cX6_turn 65 = .ok (.goto (-33), 3) := by decide +kernel
theorem dX6_turn_68 : decode cX6_turn 68 = .ok (.iload_n 2, 1) := by decide +kernel
theorem dX6_turn_69 : decode cX6_turn 69 = .ok (.ireturn, 1) := by decide +kernel
theorem dX6_setWindow_0 : decode cX6_setWindow 0 = .ok (.aload_n 0, 1) := by decide +kernel
theorem dX6_setWindow_1 : decode cX6_setWindow 1 = .ok (.iconst 0, 1) := by decide +kernel
theorem dX6_setWindow_2 : decode cX6_setWindow 2 = .ok (.putfield 41, 3) := by decide +kernel
theorem dX6_setWindow_5 : decode cX6_setWindow 5 = .ok (.iload_n 1, 1) := by decide +kernel
theorem dX6_setWindow_6 : decode cX6_setWindow 6 = .ok (.iconst 0, 1) := by decide +kernel
theorem dX6_setWindow_7 : decode cX6_setWindow 7 = .ok (.iconst 3, 1) := by decide +kernel
theorem dX6_setWindow_8 : decode cX6_setWindow 8 = .ok (.invokestatic 45, 3) := by decide +kernel
theorem dX6_setWindow_11 : decode cX6_setWindow 11 = .ok (.ifCond .ne 9, 3) := by decide +kernel
theorem dX6_setWindow_14 : decode cX6_setWindow 14 = .ok (.aload_n 0, 1) := by decide +kernel
theorem dX6_setWindow_15 : decode cX6_setWindow 15 = .ok (.iconst 1, 1) := by decide +kernel
theorem dX6_setWindow_16 : decode cX6_setWindow 16 = .ok (.invokevirtual 104, 3) := by decide +kernel
theorem dX6_setWindow_19 : decode cX6_setWindow 19 = .ok (.ireturn, 1) := by decide +kernel
theorem dX6_setWindow_20 : decode cX6_setWindow 20 = .ok (.aload_n 0, 1) := by decide +kernel
theorem dX6_setWindow_21 : decode cX6_setWindow 21 = .ok (.getfield 63, 3) := by decide +kernel
theorem dX6_setWindow_24 : decode cX6_setWindow 24 = .ok (.istore_n 2, 1) := by decide +kernel
theorem dX6_setWindow_25 : decode cX6_setWindow 25 = .ok (.aload_n 0, 1) := by decide +kernel
theorem dX6_setWindow_26 : decode cX6_setWindow 26 = .ok (.iload_n 1, 1) := by decide +kernel
theorem dX6_setWindow_27 : decode cX6_setWindow 27 = .ok (.putfield 63, 3) := by decide +kernel
theorem dX6_setWindow_30 : decode cX6_setWindow 30 = .ok (.iload_n 2, 1) := by decide +kernel
theorem dX6_setWindow_31 : decode cX6_setWindow 31 = .ok (.ireturn, 1) := by decide +kernel
theorem dX6_fits_0 : decode cX6_fits 0 = .ok (.aload_n 0, 1) := by decide +kernel
theorem dX6_fits_1 : decode cX6_fits 1 = .ok (.getfield 31, 3) := by decide +kernel
theorem dX6_fits_4 : decode cX6_fits 4 = .ok (.getfield 60, 3) := by decide +kernel
theorem dX6_fits_7 : decode cX6_fits 7 = .ok (.iload_n 1, 1) := by decide +kernel
theorem dX6_fits_8 : decode cX6_fits 8 = .ok (.iaload, 1) := by decide +kernel
theorem dX6_fits_9 : decode cX6_fits 9 = .ok (.aload_n 0, 1) := by decide +kernel
theorem dX6_fits_10 : decode cX6_fits 10 = .ok (.getfield 16, 3) := by decide +kernel
theorem dX6_fits_13 : decode cX6_fits 13 = .ok (.iload_n 2, 1) := by decide +kernel
theorem dX6_fits_14 : decode cX6_fits 14 = .ok (.iaload, 1) := by decide +kernel
theorem dX6_fits_15 : decode cX6_fits 15 = .ok (.if_icmp .ne 36, 3) := by decide +kernel
theorem dX6_fits_18 : decode cX6_fits 18 = .ok (.aload_n 0, 1) := by decide +kernel
theorem dX6_fits_19 : decode cX6_fits 19 = .ok (.getfield 31, 3) := by decide +kernel
theorem dX6_fits_22 : decode cX6_fits 22 = .ok (.iload_n 1, 1) := by decide +kernel
theorem dX6_fits_23 : decode cX6_fits 23 = .ok (.invokevirtual 85, 3) := by decide +kernel
theorem dX6_fits_26 : decode cX6_fits 26 = .ok (.aload_n 0, 1) := by decide +kernel
theorem dX6_fits_27 : decode cX6_fits 27 = .ok (.getfield 22, 3) := by decide +kernel
theorem dX6_fits_30 : decode cX6_fits 30 = .ok (.iload_n 2, 1) := by decide +kernel
theorem dX6_fits_31 : decode cX6_fits 31 = .ok (.iaload, 1) := by decide +kernel
theorem dX6_fits_32 : decode cX6_fits 32 = .ok (.if_icmp .gt 19, 3) := by decide +kernel
theorem dX6_fits_35 : decode cX6_fits 35 = .ok (.aload_n 0, 1) := by decide +kernel
theorem dX6_fits_36 : decode cX6_fits 36 = .ok (.getfield 31, 3) := by decide +kernel
theorem dX6_fits_39 : decode cX6_fits 39 = .ok (.getfield 88, 3) := by decide +kernel
theorem dX6_fits_42 : decode cX6_fits 42 = .ok (.iload_n 1, 1) := by decide +kernel
theorem dX6_fits_43 : decode cX6_fits 43 = .ok (.iaload, 1) := by decide +kernel
theorem dX6_fits_44 : decode cX6_fits 44 = .ok (.ifCond .ne 7, 3) := by decide +kernel
theorem dX6_fits_47 : decode cX6_fits 47 = .ok (.iconst 1, 1) := by decide +kernel
theorem dX6_fits_48 : decode cX6_fits 48 = .ok (.goto 4, 3) := by decide +kernel
theorem dX6_fits_51 : decode cX6_fits 51 = .ok (.iconst 0, 1) := by decide +kernel
theorem dX6_fits_52 : decode cX6_fits 52 = .ok (.ireturn, 1) := by decide +kernel
theorem dX6_order_0 : decode cX6_order 0 = .ok (.aload_n 0, 1) := by decide +kernel
theorem dX6_order_1 : decode cX6_order 1 = .ok (.iconst 0, 1) := by decide +kernel
theorem dX6_order_2 : decode cX6_order 2 = .ok (.putfield 41, 3) := by decide +kernel
theorem dX6_order_5 : decode cX6_order 5 = .ok (.aload_n 0, 1) := by decide +kernel
theorem dX6_order_6 : decode cX6_order 6 = .ok (.iload_n 1, 1) := by decide +kernel
theorem dX6_order_7 : decode cX6_order 7 = .ok (.invokevirtual 111, 3) := by decide +kernel
theorem dX6_order_10 : decode cX6_order 10 = .ok (.ifCond .ne 9, 3) := by decide +kernel
theorem dX6_order_13 : decode cX6_order 13 = .ok (.aload_n 0, 1) := by decide +kernel
theorem dX6_order_14 : decode cX6_order 14 = .ok (.iconst 1, 1) := by decide +kernel
theorem dX6_order_15 : decode cX6_order 15 = .ok (.invokevirtual 104, 3) := by decide +kernel
theorem dX6_order_18 : decode cX6_order 18 = .ok (.ireturn, 1) := by decide +kernel
theorem dX6_order_19 : decode cX6_order 19 = .ok (.iload_n 2, 1) := by decide +kernel
theorem dX6_order_20 : decode cX6_order 20 = .ok (.iconst 1, 1) := by decide +kernel
theorem dX6_order_21 : decode cX6_order 21 = .ok (.bipush 9, 2) := by decide +kernel
theorem dX6_order_23 : decode cX6_order 23 = .ok (.invokestatic 45, 3) := by decide +kernel
theorem dX6_order_26 : decode cX6_order 26 = .ok (.ifCond .eq 13, 3) := by decide +kernel
theorem dX6_order_29 : decode cX6_order 29 = .ok (.iload_n 3, 1) := by decide +kernel
theorem dX6_order_30 : decode cX6_order 30 = .ok (.iconst 0, 1) := by decide +kernel
theorem dX6_order_31 : decode cX6_order 31 = .ok (.bipush 60, 2) := by decide +kernel
theorem dX6_order_33 : decode cX6_order 33 = .ok (.invokestatic 45, 3) := by decide +kernel
theorem dX6_order_36 : decode cX6_order 36 = .ok (.ifCond .ne 9, 3) := by decide +kernel
theorem dX6_order_39 : decode cX6_order 39 = .ok (.aload_n 0, 1) := by decide +kernel
theorem dX6_order_40 : decode cX6_order 40 = .ok (.iconst 2, 1) := by decide +kernel
theorem dX6_order_41 : decode cX6_order 41 = .ok (.invokevirtual 104, 3) := by decide +kernel
theorem dX6_order_44 : decode cX6_order 44 = .ok (.ireturn, 1) := by decide +kernel
theorem dX6_order_45 : decode cX6_order 45 = .ok (.aload_n 0, 1) := by decide +kernel
theorem dX6_order_46 : decode cX6_order 46 = .ok (.getfield 128, 3) := by decide +kernel
theorem dX6_order_49 : decode cX6_order 49 = .ok (.bipush 6, 2) := by decide +kernel
theorem dX6_order_51 : decode cX6_order 51 = .ok (.if_icmp .ne 9, 3) := by decide +kernel
theorem dX6_order_54 : decode cX6_order 54 = .ok (.aload_n 0, 1) := by decide +kernel
theorem dX6_order_55 : decode cX6_order 55 = .ok (.iconst 3, 1) := by decide +kernel
theorem dX6_order_56 : decode cX6_order 56 = .ok (.invokevirtual 104, 3) := by decide +kernel
theorem dX6_order_59 : decode cX6_order 59 = .ok (.ireturn, 1) := by decide +kernel
theorem dX6_order_60 : decode cX6_order 60 = .ok (.aload_n 0, 1) := by decide +kernel
theorem dX6_order_61 : decode cX6_order 61 = .ok (.getfield 16, 3) := by decide +kernel
theorem dX6_order_64 : decode cX6_order 64 = .ok (.aload_n 0, 1) := by decide +kernel
theorem dX6_order_65 : decode cX6_order 65 = .ok (.getfield 128, 3) := by decide +kernel
theorem dX6_order_68 : decode cX6_order 68 = .ok (.iload_n 1, 1) := by decide +kernel
theorem dX6_order_69 : decode cX6_order 69 = .ok (.iastore, 1) := by decide +kernel
theorem dX6_order_70 : decode cX6_order 70 = .ok (.aload_n 0, 1) := by decide +kernel
theorem dX6_order_71 : decode cX6_order 71 = .ok (.getfield 19, 3) := by decide +kernel
theorem dX6_order_74 : decode cX6_order 74 = .ok (.aload_n 0, 1) := by decide +kernel
theorem dX6_order_75 : decode cX6_order 75 = .ok (.getfield 128, 3) := by decide +kernel
theorem dX6_order_78 : decode cX6_order 78 = .ok (.iload_n 2, 1) := by decide +kernel
theorem dX6_order_79 : decode cX6_order 79 = .ok (.iastore, 1) := by decide +kernel
theorem dX6_order_80 : decode cX6_order 80 = .ok (.aload_n 0, 1) := by decide +kernel
theorem dX6_order_81 : decode cX6_order 81 = .ok (.getfield 22, 3) := by decide +kernel
theorem dX6_order_84 : decode cX6_order 84 = .ok (.aload_n 0, 1) := by decide +kernel
theorem dX6_order_85 : decode cX6_order 85 = .ok (.getfield 128, 3) := by decide +kernel
theorem dX6_order_88 : decode cX6_order 88 = .ok (.iload_n 3, 1) := by decide +kernel
theorem dX6_order_89 : decode cX6_order 89 = .ok (.iastore, 1) := by decide +kernel
theorem dX6_order_90 : decode cX6_order 90 = .ok (.aload_n 0, 1) := by decide +kernel
theorem dX6_order_91 : decode cX6_order 91 = .ok (.dup, 1) := by decide +kernel
theorem dX6_order_92 : decode cX6_order 92 = .ok (.getfield 128, 3) := by decide +kernel
theorem dX6_order_95 : decode cX6_order 95 = .ok (.iconst 1, 1) := by decide +kernel
theorem dX6_order_96 : decode cX6_order 96 = .ok (.iadd, 1) := by decide +kernel
theorem dX6_order_97 : decode cX6_order 97 = .ok (.putfield 128, 3) := by decide +kernel
theorem dX6_order_100 : decode cX6_order 100 = .ok (.aload_n 0, 1) := by decide +kernel
theorem dX6_order_101 : decode cX6_order 101 = .ok (.getfield 128, 3) := by decide +kernel
theorem dX6_order_104 : decode cX6_order 104 = .ok (.iconst 1, 1) := by decide +kernel
theorem dX6_order_105 : decode cX6_order 105 = .ok (.isub, 1) := by decide +kernel
theorem dX6_order_106 : decode cX6_order 106 = .ok (.ireturn, 1) := by decide +kernel
theorem dX6_filled_0 : decode cX6_filled 0 = .ok (.iconst 0, 1) := by decide +kernel
theorem dX6_filled_1 : decode cX6_filled 1 = .ok (.istore_n 2, 1) := by decide +kernel
theorem dX6_filled_2 : decode cX6_filled 2 = .ok (.iconst 4, 1) := by decide +kernel
theorem dX6_filled_3 : decode cX6_filled 3 = .ok (.istore_n 3, 1) := by decide +kernel
theorem dX6_filled_4 : decode cX6_filled 4 = .ok (.iload_n 3, 1) := by decide +kernel
theorem dX6_filled_5 : decode cX6_filled 5 = .ok (.ifCond .lt 84, 3) := by decide +kernel
theorem dX6_filled_8 : decode cX6_filled 8 = .ok (.bipush 8, 2) := by decide +kernel
theorem dX6_filled_10 : decode cX6_filled 10 = .ok (.iload_n 3, 1) := by decide +kernel
theorem dX6_filled_11 : decode cX6_filled 11 = .ok (.imul, 1) := by decide +kernel
theorem dX6_filled_12 : decode cX6_filled 12 = .ok (.istore 4, 2) := by decide +kernel
theorem dX6_filled_14 : decode cX6_filled 14 = .ok (.iload 4, 2) := by decide +kernel
theorem dX6_filled_16 : decode cX6_filled 16 = .ok (.bipush 8, 2) := by decide +kernel
theorem dX6_filled_18 : decode cX6_filled 18 = .ok (.iload_n 3, 1) := by decide +kernel
theorem dX6_filled_19 : decode cX6_filled 19 = .ok (.iconst 1, 1) := by decide +kernel
theorem dX6_filled_20 : decode cX6_filled 20 = .ok (.iadd, 1) := by decide +kernel
theorem dX6_filled_21 : decode cX6_filled 21 = .ok (.imul, 1) := by decide +kernel
theorem dX6_filled_22 : decode cX6_filled 22 = .ok (.if_icmp .ge 61, 3) := by decide +kernel
theorem dX6_filled_25 : decode cX6_filled 25 = .ok (.aload_n 0, 1) := by decide +kernel
theorem dX6_filled_26 : decode cX6_filled 26 = .ok (.getfield 25, 3) := by decide +kernel
theorem dX6_filled_29 : decode cX6_filled 29 = .ok (.iload_n 1, 1) := by decide +kernel
theorem dX6_filled_30 : decode cX6_filled 30 = .ok (.iaload, 1) := by decide +kernel
theorem dX6_filled_31 : decode cX6_filled 31 = .ok (.aload_n 0, 1) := by decide +kernel
theorem dX6_filled_32 : decode cX6_filled 32 = .ok (.getfield 19, 3) := by decide +kernel
theorem dX6_filled_35 : decode cX6_filled 35 = .ok (.iload_n 1, 1) := by decide +kernel
theorem dX6_filled_36 : decode cX6_filled 36 = .ok (.iaload, 1) := by decide +kernel
theorem dX6_filled_37 : decode cX6_filled 37 = .ok (.if_icmp .ge 46, 3) := by decide +kernel
theorem dX6_filled_40 : decode cX6_filled 40 = .ok (.aload_n 0, 1) := by decide +kernel
theorem dX6_filled_41 : decode cX6_filled 41 = .ok (.iload 4, 2) := by decide +kernel
theorem dX6_filled_43 : decode cX6_filled 43 = .ok (.iload_n 1, 1) := by decide +kernel
theorem dX6_filled_44 : decode cX6_filled 44 = .ok (.invokevirtual 131, 3) := by decide +kernel
theorem dX6_filled_47 : decode cX6_filled 47 = .ok (.ifCond .ne 6, 3) := by decide +kernel
theorem dX6_filled_50 : decode cX6_filled 50 = .ok (.goto 27, 3) := by decide +kernel
theorem dX6_filled_53 : decode cX6_filled 53 = .ok (.aload_n 0, 1) := by decide +kernel
theorem dX6_filled_54 : decode cX6_filled 54 = .ok (.getfield 31, 3) := by decide +kernel
theorem dX6_filled_57 : decode cX6_filled 57 = .ok (.getfield 60, 3) := by decide +kernel
theorem dX6_filled_60 : decode cX6_filled 60 = .ok (.iload 4, 2) := by decide +kernel
theorem dX6_filled_62 : decode cX6_filled 62 = .ok (.iconst (-1), 1) := by decide +kernel
theorem dX6_filled_63 : decode cX6_filled 63 = .ok (.iastore, 1) := by decide +kernel
theorem dX6_filled_64 : decode cX6_filled 64 = .ok (.aload_n 0, 1) := by decide +kernel
theorem dX6_filled_65 : decode cX6_filled 65 = .ok (.getfield 25, 3) := by decide +kernel
theorem dX6_filled_68 : decode cX6_filled 68 = .ok (.iload_n 1, 1) := by decide +kernel
theorem dX6_filled_69 : decode cX6_filled 69 = .ok (.dup2, 1) := by decide +kernel
theorem dX6_filled_70 : decode cX6_filled 70 = .ok (.iaload, 1) := by decide +kernel
theorem dX6_filled_71 : decode cX6_filled 71 = .ok (.iconst 1, 1) := by decide +kernel
theorem dX6_filled_72 : decode cX6_filled 72 = .ok (.iadd, 1) := by decide +kernel
theorem dX6_filled_73 : decode cX6_filled 73 = .ok (.iastore, 1) := by decide +kernel
theorem dX6_filled_74 : decode cX6_filled 74 = .ok (.iinc 2 1, 3) := by decide +kernel
theorem dX6_filled_77 : decode cX6_filled 77 = .ok (.iinc 4 1, 3) := by decide +kernel
theorem dX6_filled_80 : decode cX6_filled 80 = .ok (.goto (-66), 3) := by decide +kernel
theorem dX6_filled_83 : decode cX6_filled 83 = .ok (.iinc 3 (-1), 3) := by decide +kernel
theorem dX6_filled_86 : decode cX6_filled 86 = .ok (.goto (-82), 3) := by decide +kernel
theorem dX6_filled_89 : decode cX6_filled 89 = .ok (.iload_n 2, 1) := by decide +kernel
theorem dX6_filled_90 : decode cX6_filled 90 = .ok (.ireturn, 1) := by decide +kernel
theorem dX6_fill_0 : decode cX6_fill 0 = .ok (.aload_n 0, 1) := by decide +kernel
theorem dX6_fill_1 : decode cX6_fill 1 = .ok (.iconst 0, 1) := by decide +kernel
theorem dX6_fill_2 : decode cX6_fill 2 = .ok (.putfield 41, 3) := by decide +kernel
theorem dX6_fill_5 : decode cX6_fill 5 = .ok (.iconst 0, 1) := by decide +kernel
theorem dX6_fill_6 : decode cX6_fill 6 = .ok (.istore_n 1, 1) := by decide +kernel
theorem dX6_fill_7 : decode cX6_fill 7 = .ok (.iconst 0, 1) := by decide +kernel
theorem dX6_fill_8 : decode cX6_fill 8 = .ok (.istore_n 2, 1) := by decide +kernel
theorem dX6_fill_9 : decode cX6_fill 9 = .ok (.iload_n 2, 1) := by decide +kernel
theorem dX6_fill_10 : decode cX6_fill 10 = .ok (.aload_n 0, 1) := by decide +kernel
theorem dX6_fill_11 : decode cX6_fill 11 = .ok (.getfield 128, 3) := by decide +kernel
theorem dX6_fill_14 : decode cX6_fill 14 = .ok (.if_icmp .ge 17, 3) := by decide +kernel
theorem dX6_fill_17 : decode cX6_fill 17 = .ok (.iload_n 1, 1) := by decide +kernel
theorem dX6_fill_18 : decode cX6_fill 18 = .ok (.aload_n 0, 1) := by decide +kernel
theorem dX6_fill_19 : decode cX6_fill 19 = .ok (.iload_n 2, 1) := by decide +kernel
theorem dX6_fill_20 : decode cX6_fill 20 = .ok (.invokevirtual 134, 3) := by decide +kernel
theorem dX6_fill_23 : decode cX6_fill 23 = .ok (.iadd, 1) := by decide +kernel
theorem dX6_fill_24 : decode cX6_fill 24 = .ok (.istore_n 1, 1) := by decide +kernel
theorem dX6_fill_25 : decode cX6_fill 25 = .ok (.iinc 2 1, 3) := by decide +kernel
theorem dX6_fill_28 : decode cX6_fill 28 = .ok (.goto (-19), 3) := by decide +kernel
theorem dX6_fill_31 : decode cX6_fill 31 = .ok (.aload_n 0, 1) := by decide +kernel
theorem dX6_fill_32 : decode cX6_fill 32 = .ok (.dup, 1) := by decide +kernel
theorem dX6_fill_33 : decode cX6_fill 33 = .ok (.getfield 137, 3) := by decide +kernel
theorem dX6_fill_36 : decode cX6_fill 36 = .ok (.iload_n 1, 1) := by decide +kernel
theorem dX6_fill_37 : decode cX6_fill 37 = .ok (.iadd, 1) := by decide +kernel
theorem dX6_fill_38 : decode cX6_fill 38 = .ok (.putfield 137, 3) := by decide +kernel
theorem dX6_fill_41 : decode cX6_fill 41 = .ok (.iload_n 1, 1) := by decide +kernel
theorem dX6_fill_42 : decode cX6_fill 42 = .ok (.ireturn, 1) := by decide +kernel
theorem dX6_pass_0 : decode cX6_pass 0 = .ok (.aload_n 0, 1) := by decide +kernel
theorem dX6_pass_1 : decode cX6_pass 1 = .ok (.iconst 0, 1) := by decide +kernel
theorem dX6_pass_2 : decode cX6_pass 2 = .ok (.putfield 41, 3) := by decide +kernel
theorem dX6_pass_5 : decode cX6_pass 5 = .ok (.iload_n 1, 1) := by decide +kernel
theorem dX6_pass_6 : decode cX6_pass 6 = .ok (.iconst 1, 1) := by decide +kernel
theorem dX6_pass_7 : decode cX6_pass 7 = .ok (.bipush 60, 2) := by decide +kernel
theorem dX6_pass_9 : decode cX6_pass 9 = .ok (.invokestatic 45, 3) := by decide +kernel
theorem dX6_pass_12 : decode cX6_pass 12 = .ok (.ifCond .eq 13, 3) := by decide +kernel
theorem dX6_pass_15 : decode cX6_pass 15 = .ok (.iload_n 2, 1) := by decide +kernel
theorem dX6_pass_16 : decode cX6_pass 16 = .ok (.iconst 0, 1) := by decide +kernel
theorem dX6_pass_17 : decode cX6_pass 17 = .ok (.bipush 9, 2) := by decide +kernel
theorem dX6_pass_19 : decode cX6_pass 19 = .ok (.invokestatic 45, 3) := by decide +kernel
theorem dX6_pass_22 : decode cX6_pass 22 = .ok (.ifCond .ne 9, 3) := by decide +kernel
theorem dX6_pass_25 : decode cX6_pass 25 = .ok (.aload_n 0, 1) := by decide +kernel
theorem dX6_pass_26 : decode cX6_pass 26 = .ok (.iconst 1, 1) := by decide +kernel
theorem dX6_pass_27 : decode cX6_pass 27 = .ok (.invokevirtual 104, 3) := by decide +kernel
theorem dX6_pass_30 : decode cX6_pass 30 = .ok (.ireturn, 1) := by decide +kernel
theorem dX6_pass_31 : decode cX6_pass 31 = .ok (.aload_n 0, 1) := by decide +kernel
theorem dX6_pass_32 : decode cX6_pass 32 = .ok (.aload_n 0, 1) := by decide +kernel
theorem dX6_pass_33 : decode cX6_pass 33 = .ok (.getfield 31, 3) := by decide +kernel
theorem dX6_pass_36 : decode cX6_pass 36 = .ok (.iload_n 1, 1) := by decide +kernel
theorem dX6_pass_37 : decode cX6_pass 37 = .ok (.iload_n 2, 1) := by decide +kernel
theorem dX6_pass_38 : decode cX6_pass 38 = .ok (.invokevirtual 140, 3) := by decide +kernel
theorem dX6_pass_41 : decode cX6_pass 41 = .ok (.aload_n 0, 1) := by decide +kernel
theorem dX6_pass_42 : decode cX6_pass 42 = .ok (.getfield 31, 3) := by decide +kernel
theorem dX6_pass_45 : decode cX6_pass 45 = .ok (.iconst 3, 1) := by decide +kernel
theorem dX6_pass_46 : decode cX6_pass 46 = .ok (.invokevirtual 114, 3) := by decide +kernel
theorem dX6_pass_49 : decode cX6_pass 49 = .ok (.ireturn, 1) := by decide +kernel
theorem dX6_bundleTold_0 : decode cX6_bundleTold 0 = .ok (.aload_n 0, 1) := by decide +kernel
theorem dX6_bundleTold_1 : decode cX6_bundleTold 1 = .ok (.getfield 31, 3) := by decide +kernel
theorem dX6_bundleTold_4 : decode cX6_bundleTold 4 = .ok (.iload_n 1, 1) := by decide +kernel
theorem dX6_bundleTold_5 : decode cX6_bundleTold 5 = .ok (.invokevirtual 56, 3) := by decide +kernel
theorem dX6_bundleTold_8 : decode cX6_bundleTold 8 = .ok (.ifCond .ne 5, 3) := by decide +kernel
theorem dX6_bundleTold_11 : decode cX6_bundleTold 11 = .ok (.iconst (-1), 1) := by decide +kernel
theorem dX6_bundleTold_12 : decode cX6_bundleTold 12 = .ok (.ireturn, 1) := by decide +kernel
theorem dX6_bundleTold_13 : decode cX6_bundleTold 13 = .ok (.iload_n 2, 1) := by decide +kernel
theorem dX6_bundleTold_14 : decode cX6_bundleTold 14 = .ok (.tableswitch 110 0 6 #[42, 52, 62, 72, 81, 91, 101], 42) := by decide +kernel
theorem dX6_bundleTold_56 : decode cX6_bundleTold 56 = .ok (.aload_n 0, 1) := by decide +kernel
theorem dX6_bundleTold_57 : decode cX6_bundleTold 57 = .ok (.getfield 31, 3) := by decide +kernel
theorem dX6_bundleTold_60 : decode cX6_bundleTold 60 = .ok (.getfield 60, 3) := by decide +kernel
theorem dX6_bundleTold_63 : decode cX6_bundleTold 63 = .ok (.iload_n 1, 1) := by decide +kernel
theorem dX6_bundleTold_64 : decode cX6_bundleTold 64 = .ok (.iaload, 1) := by decide +kernel
theorem dX6_bundleTold_65 : decode cX6_bundleTold 65 = .ok (.ireturn, 1) := by decide +kernel
theorem dX6_bundleTold_66 : decode cX6_bundleTold 66 = .ok (.aload_n 0, 1) := by decide +kernel
theorem dX6_bundleTold_67 : decode cX6_bundleTold 67 = .ok (.getfield 31, 3) := by decide +kernel
theorem dX6_bundleTold_70 : decode cX6_bundleTold 70 = .ok (.getfield 76, 3) := by decide +kernel
theorem dX6_bundleTold_73 : decode cX6_bundleTold 73 = .ok (.iload_n 1, 1) := by decide +kernel
theorem dX6_bundleTold_74 : decode cX6_bundleTold 74 = .ok (.iaload, 1) := by decide +kernel
theorem dX6_bundleTold_75 : decode cX6_bundleTold 75 = .ok (.ireturn, 1) := by decide +kernel
theorem dX6_bundleTold_76 : decode cX6_bundleTold 76 = .ok (.aload_n 0, 1) := by decide +kernel
theorem dX6_bundleTold_77 : decode cX6_bundleTold 77 = .ok (.getfield 31, 3) := by decide +kernel
theorem dX6_bundleTold_80 : decode cX6_bundleTold 80 = .ok (.getfield 79, 3) := by decide +kernel
theorem dX6_bundleTold_83 : decode cX6_bundleTold 83 = .ok (.iload_n 1, 1) := by decide +kernel
theorem dX6_bundleTold_84 : decode cX6_bundleTold 84 = .ok (.iaload, 1) := by decide +kernel
theorem dX6_bundleTold_85 : decode cX6_bundleTold 85 = .ok (.ireturn, 1) := by decide +kernel
theorem dX6_bundleTold_86 : decode cX6_bundleTold 86 = .ok (.aload_n 0, 1) := by decide +kernel
theorem dX6_bundleTold_87 : decode cX6_bundleTold 87 = .ok (.getfield 31, 3) := by decide +kernel
theorem dX6_bundleTold_90 : decode cX6_bundleTold 90 = .ok (.iload_n 1, 1) := by decide +kernel
theorem dX6_bundleTold_91 : decode cX6_bundleTold 91 = .ok (.invokevirtual 85, 3) := by decide +kernel
theorem dX6_bundleTold_94 : decode cX6_bundleTold 94 = .ok (.ireturn, 1) := by decide +kernel
theorem dX6_bundleTold_95 : decode cX6_bundleTold 95 = .ok (.aload_n 0, 1) := by decide +kernel
theorem dX6_bundleTold_96 : decode cX6_bundleTold 96 = .ok (.getfield 31, 3) := by decide +kernel
theorem dX6_bundleTold_99 : decode cX6_bundleTold 99 = .ok (.getfield 82, 3) := by decide +kernel
theorem dX6_bundleTold_102 : decode cX6_bundleTold 102 = .ok (.iload_n 1, 1) := by decide +kernel
theorem dX6_bundleTold_103 : decode cX6_bundleTold 103 = .ok (.iaload, 1) := by decide +kernel
theorem dX6_bundleTold_104 : decode cX6_bundleTold 104 = .ok (.ireturn, 1) := by decide +kernel
theorem dX6_bundleTold_105 : decode cX6_bundleTold 105 = .ok (.aload_n 0, 1) := by decide +kernel
theorem dX6_bundleTold_106 : decode cX6_bundleTold 106 = .ok (.getfield 31, 3) := by decide +kernel
theorem dX6_bundleTold_109 : decode cX6_bundleTold 109 = .ok (.getfield 88, 3) := by decide +kernel
theorem dX6_bundleTold_112 : decode cX6_bundleTold 112 = .ok (.iload_n 1, 1) := by decide +kernel
theorem dX6_bundleTold_113 : decode cX6_bundleTold 113 = .ok (.iaload, 1) := by decide +kernel
theorem dX6_bundleTold_114 : decode cX6_bundleTold 114 = .ok (.ireturn, 1) := by decide +kernel
theorem dX6_bundleTold_115 : decode cX6_bundleTold 115 = .ok (.aload_n 0, 1) := by decide +kernel
theorem dX6_bundleTold_116 : decode cX6_bundleTold 116 = .ok (.getfield 31, 3) := by decide +kernel
theorem dX6_bundleTold_119 : decode cX6_bundleTold 119 = .ok (.iload_n 1, 1) := by decide +kernel
theorem dX6_bundleTold_120 : decode cX6_bundleTold 120 = .ok (.invokevirtual 121, 3) := by decide +kernel
theorem dX6_bundleTold_123 : decode cX6_bundleTold 123 = .ok (.ireturn, 1) := by decide +kernel
theorem dX6_bundleTold_124 : decode cX6_bundleTold 124 = .ok (.aload_n 0, 1) := by decide +kernel
theorem dX6_bundleTold_125 : decode cX6_bundleTold 125 = .ok (.getfield 31, 3) := by decide +kernel
theorem dX6_bundleTold_128 : decode cX6_bundleTold 128 = .ok (.iload_n 1, 1) := by decide +kernel
theorem dX6_bundleTold_129 : decode cX6_bundleTold 129 = .ok (.invokevirtual 66, 3) := by decide +kernel
theorem dX6_bundleTold_132 : decode cX6_bundleTold 132 = .ok (.ireturn, 1) := by decide +kernel
theorem dX6_told_0 : decode cX6_told 0 = .ok (.aload_n 0, 1) := by decide +kernel
theorem dX6_told_1 : decode cX6_told 1 = .ok (.iconst 0, 1) := by decide +kernel
theorem dX6_told_2 : decode cX6_told 2 = .ok (.putfield 41, 3) := by decide +kernel
theorem dX6_told_5 : decode cX6_told 5 = .ok (.iload_n 1, 1) := by decide +kernel
theorem dX6_told_6 : decode cX6_told 6 = .ok (.iload_n 2, 1) := by decide +kernel
theorem dX6_told_7 : decode cX6_told 7 = .ok (.invokestatic 107, 3) := by decide +kernel
theorem dX6_told_10 : decode cX6_told 10 = .ok (.ifCond .eq 27, 3) := by decide +kernel
theorem dX6_told_13 : decode cX6_told 13 = .ok (.iload_n 3, 1) := by decide +kernel
theorem dX6_told_14 : decode cX6_told 14 = .ok (.iconst 0, 1) := by decide +kernel
theorem dX6_told_15 : decode cX6_told 15 = .ok (.bipush 7, 2) := by decide +kernel
theorem dX6_told_17 : decode cX6_told 17 = .ok (.invokestatic 45, 3) := by decide +kernel
theorem dX6_told_20 : decode cX6_told 20 = .ok (.ifCond .eq 17, 3) := by decide +kernel
theorem dX6_told_23 : decode cX6_told 23 = .ok (.aload_n 0, 1) := by decide +kernel
theorem dX6_told_24 : decode cX6_told 24 = .ok (.bipush 8, 2) := by decide +kernel
theorem dX6_told_26 : decode cX6_told 26 = .ok (.iload_n 1, 1) := by decide +kernel
theorem dX6_told_27 : decode cX6_told 27 = .ok (.imul, 1) := by decide +kernel
theorem dX6_told_28 : decode cX6_told 28 = .ok (.iload_n 2, 1) := by decide +kernel
theorem dX6_told_29 : decode cX6_told 29 = .ok (.iadd, 1) := by decide +kernel
theorem dX6_told_30 : decode cX6_told 30 = .ok (.iload_n 3, 1) := by decide +kernel
theorem dX6_told_31 : decode cX6_told 31 = .ok (.invokevirtual 144, 3) := by decide +kernel
theorem dX6_told_34 : decode cX6_told 34 = .ok (.goto 8, 3) := by decide +kernel
theorem dX6_told_37 : decode cX6_told 37 = .ok (.aload_n 0, 1) := by decide +kernel
theorem dX6_told_38 : decode cX6_told 38 = .ok (.iconst 1, 1) := by decide +kernel
theorem dX6_told_39 : decode cX6_told 39 = .ok (.invokevirtual 104, 3) := by decide +kernel
theorem dX6_told_42 : decode cX6_told 42 = .ok (.ireturn, 1) := by decide +kernel
theorem dX6_herbTold_0 : decode cX6_herbTold 0 = .ok (.iload_n 2, 1) := by decide +kernel
theorem dX6_herbTold_1 : decode cX6_herbTold 1 = .ok (.iconst 2, 1) := by decide +kernel
theorem dX6_herbTold_2 : decode cX6_herbTold 2 = .ok (.if_icmp .ge 23, 3) := by decide +kernel
theorem dX6_herbTold_5 : decode cX6_herbTold 5 = .ok (.iload_n 2, 1) := by decide +kernel
theorem dX6_herbTold_6 : decode cX6_herbTold 6 = .ok (.ifCond .ne 12, 3) := by decide +kernel
theorem dX6_herbTold_9 : decode cX6_herbTold 9 = .ok (.aload_n 0, 1) := by decide +kernel
theorem dX6_herbTold_10 : decode cX6_herbTold 10 = .ok (.getfield 9, 3) := by decide +kernel
theorem dX6_herbTold_13 : decode cX6_herbTold 13 = .ok (.iload_n 1, 1) := by decide +kernel
theorem dX6_herbTold_14 : decode cX6_herbTold 14 = .ok (.iaload, 1) := by decide +kernel
theorem dX6_herbTold_15 : decode cX6_herbTold 15 = .ok (.goto 9, 3) := by decide +kernel
theorem dX6_herbTold_18 : decode cX6_herbTold 18 = .ok (.aload_n 0, 1) := by decide +kernel
theorem dX6_herbTold_19 : decode cX6_herbTold 19 = .ok (.getfield 13, 3) := by decide +kernel
theorem dX6_herbTold_22 : decode cX6_herbTold 22 = .ok (.iload_n 1, 1) := by decide +kernel
theorem dX6_herbTold_23 : decode cX6_herbTold 23 = .ok (.iaload, 1) := by decide +kernel
theorem dX6_herbTold_24 : decode cX6_herbTold 24 = .ok (.ireturn, 1) := by decide +kernel
theorem dX6_herbTold_25 : decode cX6_herbTold 25 = .ok (.iconst 0, 1) := by decide +kernel
theorem dX6_herbTold_26 : decode cX6_herbTold 26 = .ok (.istore_n 3, 1) := by decide +kernel
theorem dX6_herbTold_27 : decode cX6_herbTold 27 = .ok (.iconst 0, 1) := by decide +kernel
theorem dX6_herbTold_28 : decode cX6_herbTold 28 = .ok (.istore 4, 2) := by decide +kernel
theorem dX6_herbTold_30 : decode cX6_herbTold 30 = .ok (.iconst (-1), 1) := by decide +kernel
theorem dX6_herbTold_31 : decode cX6_herbTold 31 = .ok (.istore 5, 2) := by decide +kernel
theorem dX6_herbTold_33 : decode cX6_herbTold 33 = .ok (.iconst 0, 1) := by decide +kernel
theorem dX6_herbTold_34 : decode cX6_herbTold 34 = .ok (.istore 6, 2) := by decide +kernel
theorem dX6_herbTold_36 : decode cX6_herbTold 36 = .ok (.iload 6, 2) := by decide +kernel
theorem dX6_herbTold_38 : decode cX6_herbTold 38 = .ok (.bipush 40, 2) := by decide +kernel
theorem dX6_herbTold_40 : decode cX6_herbTold 40 = .ok (.if_icmp .ge 82, 3) := by decide +kernel
theorem dX6_herbTold_43 : decode cX6_herbTold 43 = .ok (.aload_n 0, 1) := by decide +kernel
theorem dX6_herbTold_44 : decode cX6_herbTold 44 = .ok (.getfield 31, 3) := by decide +kernel
theorem dX6_herbTold_47 : decode cX6_herbTold 47 = .ok (.getfield 60, 3) := by decide +kernel
theorem dX6_herbTold_50 : decode cX6_herbTold 50 = .ok (.iload 6, 2) := by decide +kernel
theorem dX6_herbTold_52 : decode cX6_herbTold 52 = .ok (.iaload, 1) := by decide +kernel
theorem dX6_herbTold_53 : decode cX6_herbTold 53 = .ok (.iload_n 1, 1) := by decide +kernel
theorem dX6_herbTold_54 : decode cX6_herbTold 54 = .ok (.if_icmp .eq 6, 3) := by decide +kernel
theorem dX6_herbTold_57 : decode cX6_herbTold 57 = .ok (.goto 59, 3) := by decide +kernel
theorem dX6_herbTold_60 : decode cX6_herbTold 60 = .ok (.iinc 3 1, 3) := by decide +kernel
theorem dX6_herbTold_63 : decode cX6_herbTold 63 = .ok (.aload_n 0, 1) := by decide +kernel
theorem dX6_herbTold_64 : decode cX6_herbTold 64 = .ok (.getfield 31, 3) := by decide +kernel
theorem dX6_herbTold_67 : decode cX6_herbTold 67 = .ok (.getfield 88, 3) := by decide +kernel
theorem dX6_herbTold_70 : decode cX6_herbTold 70 = .ok (.iload 6, 2) := by decide +kernel
theorem dX6_herbTold_72 : decode cX6_herbTold 72 = .ok (.iaload, 1) := by decide +kernel
theorem dX6_herbTold_73 : decode cX6_herbTold 73 = .ok (.ifCond .le 9, 3) := by decide +kernel
theorem dX6_herbTold_76 : decode cX6_herbTold 76 = .ok (.iinc 4 1, 3) := by decide +kernel
theorem dX6_herbTold_79 : decode cX6_herbTold 79 = .ok (.goto 37, 3) := by decide +kernel
theorem dX6_herbTold_82 : decode cX6_herbTold 82 = .ok (.iload 5, 2) := by decide +kernel
theorem dX6_herbTold_84 : decode cX6_herbTold 84 = .ok (.iconst (-1), 1) := by decide +kernel
theorem dX6_herbTold_85 : decode cX6_herbTold 85 = .ok (.if_icmp .ne 15, 3) := by decide +kernel
theorem dX6_herbTold_88 : decode cX6_herbTold 88 = .ok (.aload_n 0, 1) := by decide +kernel
theorem dX6_herbTold_89 : decode cX6_herbTold 89 = .ok (.getfield 31, 3) := by decide +kernel
theorem dX6_herbTold_92 : decode cX6_herbTold 92 = .ok (.iload 6, 2) := by decide +kernel
theorem dX6_herbTold_94 : decode cX6_herbTold 94 = .ok (.invokevirtual 85, 3) := by decide +kernel
theorem dX6_herbTold_97 : decode cX6_herbTold 97 = .ok (.goto 17, 3) := by decide +kernel
theorem dX6_herbTold_100 : decode cX6_herbTold 100 = .ok (.iload 5, 2) := by decide +kernel
theorem dX6_herbTold_102 : decode cX6_herbTold 102 = .ok (.aload_n 0, 1) := by decide +kernel
theorem dX6_herbTold_103 : decode cX6_herbTold 103 = .ok (.getfield 31, 3) := by decide +kernel
theorem dX6_herbTold_106 : decode cX6_herbTold 106 = .ok (.iload 6, 2) := by decide +kernel
theorem dX6_herbTold_108 : decode cX6_herbTold 108 = .ok (.invokevirtual 85, 3) := by decide +kernel
theorem dX6_herbTold_111 : decode cX6_herbTold 111 = .ok (.invokestatic 91, 3) := by decide +kernel
theorem dX6_herbTold_114 : decode cX6_herbTold 114 = .ok (.istore 5, 2) := by decide +kernel
theorem dX6_herbTold_116 : decode cX6_herbTold 116 = .ok (.iinc 6 1, 3) := by decide +kernel
theorem dX6_herbTold_119 : decode cX6_herbTold 119 = .ok (.goto (-83), 3) := by decide +kernel
theorem dX6_herbTold_122 : decode cX6_herbTold 122 = .ok (.iload_n 2, 1) := by decide +kernel
theorem dX6_herbTold_123 : decode cX6_herbTold 123 = .ok (.iconst 2, 1) := by decide +kernel
theorem dX6_herbTold_124 : decode cX6_herbTold 124 = .ok (.if_icmp .ne 7, 3) := by decide +kernel
theorem dX6_herbTold_127 : decode cX6_herbTold 127 = .ok (.iload_n 3, 1) := by decide +kernel
theorem dX6_herbTold_128 : decode cX6_herbTold 128 = .ok (.goto 15, 3) := by decide +kernel
theorem dX6_herbTold_131 : decode cX6_herbTold 131 = .ok (.iload_n 2, 1) := by decide +kernel
theorem dX6_herbTold_132 : decode cX6_herbTold 132 = .ok (.iconst 3, 1) := by decide +kernel
theorem dX6_herbTold_133 : decode cX6_herbTold 133 = .ok (.if_icmp .ne 8, 3) := by decide +kernel
theorem dX6_herbTold_136 : decode cX6_herbTold 136 = .ok (.iload 4, 2) := by decide +kernel
theorem dX6_herbTold_138 : decode cX6_herbTold 138 = .ok (.goto 5, 3) := by decide +kernel
theorem dX6_herbTold_141 : decode cX6_herbTold 141 = .ok (.iload 5, 2) := by decide +kernel
theorem dX6_herbTold_143 : decode cX6_herbTold 143 = .ok (.ireturn, 1) := by decide +kernel
theorem dX6_about_0 : decode cX6_about 0 = .ok (.aload_n 0, 1) := by decide +kernel
theorem dX6_about_1 : decode cX6_about 1 = .ok (.iconst 0, 1) := by decide +kernel
theorem dX6_about_2 : decode cX6_about 2 = .ok (.putfield 41, 3) := by decide +kernel
theorem dX6_about_5 : decode cX6_about 5 = .ok (.aload_n 0, 1) := by decide +kernel
theorem dX6_about_6 : decode cX6_about 6 = .ok (.iload_n 1, 1) := by decide +kernel
theorem dX6_about_7 : decode cX6_about 7 = .ok (.invokevirtual 111, 3) := by decide +kernel
theorem dX6_about_10 : decode cX6_about 10 = .ok (.ifCond .eq 21, 3) := by decide +kernel
theorem dX6_about_13 : decode cX6_about 13 = .ok (.iload_n 2, 1) := by decide +kernel
theorem dX6_about_14 : decode cX6_about 14 = .ok (.iconst 0, 1) := by decide +kernel
theorem dX6_about_15 : decode cX6_about 15 = .ok (.iconst 4, 1) := by decide +kernel
theorem dX6_about_16 : decode cX6_about 16 = .ok (.invokestatic 45, 3) := by decide +kernel
theorem dX6_about_19 : decode cX6_about 19 = .ok (.ifCond .eq 12, 3) := by decide +kernel
theorem dX6_about_22 : decode cX6_about 22 = .ok (.aload_n 0, 1) := by decide +kernel
theorem dX6_about_23 : decode cX6_about 23 = .ok (.iload_n 1, 1) := by decide +kernel
theorem dX6_about_24 : decode cX6_about 24 = .ok (.iload_n 2, 1) := by decide +kernel
theorem dX6_about_25 : decode cX6_about 25 = .ok (.invokevirtual 147, 3) := by decide +kernel
theorem dX6_about_28 : decode cX6_about 28 = .ok (.goto 8, 3) := by decide +kernel
theorem dX6_about_31 : decode cX6_about 31 = .ok (.aload_n 0, 1) := by decide +kernel
theorem dX6_about_32 : decode cX6_about 32 = .ok (.iconst 1, 1) := by decide +kernel
theorem dX6_about_33 : decode cX6_about 33 = .ok (.invokevirtual 104, 3) := by decide +kernel
theorem dX6_about_36 : decode cX6_about 36 = .ok (.ireturn, 1) := by decide +kernel
theorem dX6_orderTold_0 : decode cX6_orderTold 0 = .ok (.iconst 0, 1) := by decide +kernel
theorem dX6_orderTold_1 : decode cX6_orderTold 1 = .ok (.istore_n 3, 1) := by decide +kernel
theorem dX6_orderTold_2 : decode cX6_orderTold 2 = .ok (.iload_n 2, 1) := by decide +kernel
theorem dX6_orderTold_3 : decode cX6_orderTold 3 = .ok (.tableswitch 57 0 3 #[29, 36, 43, 50], 29) := by decide +kernel
theorem dX6_orderTold_32 : decode cX6_orderTold 32 = .ok (.aload_n 0, 1) := by decide +kernel
theorem dX6_orderTold_33 : decode cX6_orderTold 33 = .ok (.getfield 16, 3) := by decide +kernel
theorem dX6_orderTold_36 : decode cX6_orderTold 36 = .ok (.iload_n 1, 1) := by decide +kernel
theorem dX6_orderTold_37 : decode cX6_orderTold 37 = .ok (.iaload, 1) := by decide +kernel
theorem dX6_orderTold_38 : decode cX6_orderTold 38 = .ok (.ireturn, 1) := by decide +kernel
theorem dX6_orderTold_39 : decode cX6_orderTold 39 = .ok (.aload_n 0, 1) := by decide +kernel
theorem dX6_orderTold_40 : decode cX6_orderTold 40 = .ok (.getfield 19, 3) := by decide +kernel
theorem dX6_orderTold_43 : decode cX6_orderTold 43 = .ok (.iload_n 1, 1) := by decide +kernel
theorem dX6_orderTold_44 : decode cX6_orderTold 44 = .ok (.iaload, 1) := by decide +kernel
theorem dX6_orderTold_45 : decode cX6_orderTold 45 = .ok (.ireturn, 1) := by decide +kernel
theorem dX6_orderTold_46 : decode cX6_orderTold 46 = .ok (.aload_n 0, 1) := by decide +kernel
theorem dX6_orderTold_47 : decode cX6_orderTold 47 = .ok (.getfield 22, 3) := by decide +kernel
theorem dX6_orderTold_50 : decode cX6_orderTold 50 = .ok (.iload_n 1, 1) := by decide +kernel
theorem dX6_orderTold_51 : decode cX6_orderTold 51 = .ok (.iaload, 1) := by decide +kernel
theorem dX6_orderTold_52 : decode cX6_orderTold 52 = .ok (.ireturn, 1) := by decide +kernel
theorem dX6_orderTold_53 : decode cX6_orderTold 53 = .ok (.aload_n 0, 1) := by decide +kernel
theorem dX6_orderTold_54 : decode cX6_orderTold 54 = .ok (.getfield 25, 3) := by decide +kernel
theorem dX6_orderTold_57 : decode cX6_orderTold 57 = .ok (.iload_n 1, 1) := by decide +kernel
theorem dX6_orderTold_58 : decode cX6_orderTold 58 = .ok (.iaload, 1) := by decide +kernel
theorem dX6_orderTold_59 : decode cX6_orderTold 59 = .ok (.ireturn, 1) := by decide +kernel
theorem dX6_orderTold_60 : decode cX6_orderTold 60 = .ok (.iconst 0, 1) := by decide +kernel
theorem dX6_orderTold_61 : decode cX6_orderTold 61 = .ok (.istore 4, 2) := by decide +kernel
theorem dX6_orderTold_63 : decode cX6_orderTold 63 = .ok (.iload 4, 2) := by decide +kernel
theorem dX6_orderTold_65 : decode cX6_orderTold 65 = .ok (.bipush 40, 2) := by decide +kernel
theorem dX6_orderTold_67 : decode cX6_orderTold 67 = .ok (.if_icmp .ge 27, 3) := by decide +kernel
theorem dX6_orderTold_70 : decode cX6_orderTold 70 = .ok (.iload_n 3, 1) := by decide +kernel
theorem dX6_orderTold_71 : decode cX6_orderTold 71 = .ok (.aload_n 0, 1) := by decide +kernel
theorem dX6_orderTold_72 : decode cX6_orderTold 72 = .ok (.iload 4, 2) := by decide +kernel
theorem dX6_orderTold_74 : decode cX6_orderTold 74 = .ok (.iload_n 1, 1) := by decide +kernel
theorem dX6_orderTold_75 : decode cX6_orderTold 75 = .ok (.invokevirtual 131, 3) := by decide +kernel
theorem dX6_orderTold_78 : decode cX6_orderTold 78 = .ok (.ifCond .eq 7, 3) := by decide +kernel
theorem dX6_orderTold_81 : decode cX6_orderTold 81 = .ok (.iconst 1, 1) := by decide +kernel
theorem dX6_orderTold_82 : decode cX6_orderTold 82 = .ok (.goto 4, 3) := by decide +kernel
theorem dX6_orderTold_85 : decode cX6_orderTold 85 = .ok (.iconst 0, 1) := by decide +kernel
theorem dX6_orderTold_86 : decode cX6_orderTold 86 = .ok (.iadd, 1) := by decide +kernel
theorem dX6_orderTold_87 : decode cX6_orderTold 87 = .ok (.istore_n 3, 1) := by decide +kernel
theorem dX6_orderTold_88 : decode cX6_orderTold 88 = .ok (.iinc 4 1, 3) := by decide +kernel
theorem dX6_orderTold_91 : decode cX6_orderTold 91 = .ok (.goto (-28), 3) := by decide +kernel
theorem dX6_orderTold_94 : decode cX6_orderTold 94 = .ok (.iload_n 3, 1) := by decide +kernel
theorem dX6_orderTold_95 : decode cX6_orderTold 95 = .ok (.ireturn, 1) := by decide +kernel
theorem dX6_asked_0 : decode cX6_asked 0 = .ok (.aload_n 0, 1) := by decide +kernel
theorem dX6_asked_1 : decode cX6_asked 1 = .ok (.iconst 0, 1) := by decide +kernel
theorem dX6_asked_2 : decode cX6_asked 2 = .ok (.putfield 41, 3) := by decide +kernel
theorem dX6_asked_5 : decode cX6_asked 5 = .ok (.iload_n 1, 1) := by decide +kernel
theorem dX6_asked_6 : decode cX6_asked 6 = .ok (.iconst 0, 1) := by decide +kernel
theorem dX6_asked_7 : decode cX6_asked 7 = .ok (.aload_n 0, 1) := by decide +kernel
theorem dX6_asked_8 : decode cX6_asked 8 = .ok (.getfield 128, 3) := by decide +kernel
theorem dX6_asked_11 : decode cX6_asked 11 = .ok (.iconst 1, 1) := by decide +kernel
theorem dX6_asked_12 : decode cX6_asked 12 = .ok (.isub, 1) := by decide +kernel
theorem dX6_asked_13 : decode cX6_asked 13 = .ok (.invokestatic 45, 3) := by decide +kernel
theorem dX6_asked_16 : decode cX6_asked 16 = .ok (.ifCond .eq 21, 3) := by decide +kernel
theorem dX6_asked_19 : decode cX6_asked 19 = .ok (.iload_n 2, 1) := by decide +kernel
theorem dX6_asked_20 : decode cX6_asked 20 = .ok (.iconst 0, 1) := by decide +kernel
theorem dX6_asked_21 : decode cX6_asked 21 = .ok (.iconst 4, 1) := by decide +kernel
theorem dX6_asked_22 : decode cX6_asked 22 = .ok (.invokestatic 45, 3) := by decide +kernel
theorem dX6_asked_25 : decode cX6_asked 25 = .ok (.ifCond .eq 12, 3) := by decide +kernel
theorem dX6_asked_28 : decode cX6_asked 28 = .ok (.aload_n 0, 1) := by decide +kernel
theorem dX6_asked_29 : decode cX6_asked 29 = .ok (.iload_n 1, 1) := by decide +kernel
theorem dX6_asked_30 : decode cX6_asked 30 = .ok (.iload_n 2, 1) := by decide +kernel
theorem dX6_asked_31 : decode cX6_asked 31 = .ok (.invokevirtual 150, 3) := by decide +kernel
theorem dX6_asked_34 : decode cX6_asked 34 = .ok (.goto 8, 3) := by decide +kernel
theorem dX6_asked_37 : decode cX6_asked 37 = .ok (.aload_n 0, 1) := by decide +kernel
theorem dX6_asked_38 : decode cX6_asked 38 = .ok (.iconst 1, 1) := by decide +kernel
theorem dX6_asked_39 : decode cX6_asked 39 = .ok (.invokevirtual 104, 3) := by decide +kernel
theorem dX6_asked_42 : decode cX6_asked 42 = .ok (.ireturn, 1) := by decide +kernel
theorem dX6_counted_0 : decode cX6_counted 0 = .ok (.iconst 0, 1) := by decide +kernel
theorem dX6_counted_1 : decode cX6_counted 1 = .ok (.istore_n 2, 1) := by decide +kernel
theorem dX6_counted_2 : decode cX6_counted 2 = .ok (.iload_n 1, 1) := by decide +kernel
theorem dX6_counted_3 : decode cX6_counted 3 = .ok (.tableswitch 114 0 7 #[45, 53, 114, 114, 58, 63, 104, 109], 45) := by decide +kernel
theorem dX6_counted_48 : decode cX6_counted 48 = .ok (.aload_n 0, 1) := by decide +kernel
theorem dX6_counted_49 : decode cX6_counted 49 = .ok (.getfield 31, 3) := by decide +kernel
theorem dX6_counted_52 : decode cX6_counted 52 = .ok (.getfield 97, 3) := by decide +kernel
theorem dX6_counted_55 : decode cX6_counted 55 = .ok (.ireturn, 1) := by decide +kernel
theorem dX6_counted_56 : decode cX6_counted 56 = .ok (.aload_n 0, 1) := by decide +kernel
theorem dX6_counted_57 : decode cX6_counted 57 = .ok (.getfield 49, 3) := by decide +kernel
theorem dX6_counted_60 : decode cX6_counted 60 = .ok (.ireturn, 1) := by decide +kernel
theorem dX6_counted_61 : decode cX6_counted 61 = .ok (.aload_n 0, 1) := by decide +kernel
theorem dX6_counted_62 : decode cX6_counted 62 = .ok (.getfield 128, 3) := by decide +kernel
theorem dX6_counted_65 : decode cX6_counted 65 = .ok (.ireturn, 1) := by decide +kernel
theorem dX6_counted_66 : decode cX6_counted 66 = .ok (.iconst 0, 1) := by decide +kernel
theorem dX6_counted_67 : decode cX6_counted 67 = .ok (.istore_n 3, 1) := by decide +kernel
theorem dX6_counted_68 : decode cX6_counted 68 = .ok (.iload_n 3, 1) := by decide +kernel
theorem dX6_counted_69 : decode cX6_counted 69 = .ok (.aload_n 0, 1) := by decide +kernel
theorem dX6_counted_70 : decode cX6_counted 70 = .ok (.getfield 128, 3) := by decide +kernel
theorem dX6_counted_73 : decode cX6_counted 73 = .ok (.if_icmp .ge 32, 3) := by decide +kernel
theorem dX6_counted_76 : decode cX6_counted 76 = .ok (.iload_n 2, 1) := by decide +kernel
theorem dX6_counted_77 : decode cX6_counted 77 = .ok (.aload_n 0, 1) := by decide +kernel
theorem dX6_counted_78 : decode cX6_counted 78 = .ok (.getfield 25, 3) := by decide +kernel
theorem dX6_counted_81 : decode cX6_counted 81 = .ok (.iload_n 3, 1) := by decide +kernel
theorem dX6_counted_82 : decode cX6_counted 82 = .ok (.iaload, 1) := by decide +kernel
theorem dX6_counted_83 : decode cX6_counted 83 = .ok (.aload_n 0, 1) := by decide +kernel
theorem dX6_counted_84 : decode cX6_counted 84 = .ok (.getfield 19, 3) := by decide +kernel
theorem dX6_counted_87 : decode cX6_counted 87 = .ok (.iload_n 3, 1) := by decide +kernel
theorem dX6_counted_88 : decode cX6_counted 88 = .ok (.iaload, 1) := by decide +kernel
theorem dX6_counted_89 : decode cX6_counted 89 = .ok (.if_icmp .ne 7, 3) := by decide +kernel
theorem dX6_counted_92 : decode cX6_counted 92 = .ok (.iconst 1, 1) := by decide +kernel
theorem dX6_counted_93 : decode cX6_counted 93 = .ok (.goto 4, 3) := by decide +kernel
theorem dX6_counted_96 : decode cX6_counted 96 = .ok (.iconst 0, 1) := by decide +kernel
theorem dX6_counted_97 : decode cX6_counted 97 = .ok (.iadd, 1) := by decide +kernel
theorem dX6_counted_98 : decode cX6_counted 98 = .ok (.istore_n 2, 1) := by decide +kernel
theorem dX6_counted_99 : decode cX6_counted 99 = .ok (.iinc 3 1, 3) := by decide +kernel
theorem dX6_counted_102 : decode cX6_counted 102 = .ok (.goto (-34), 3) := by decide +kernel
theorem dX6_counted_105 : decode cX6_counted 105 = .ok (.iload_n 2, 1) := by decide +kernel
theorem dX6_counted_106 : decode cX6_counted 106 = .ok (.ireturn, 1) := by decide +kernel
theorem dX6_counted_107 : decode cX6_counted 107 = .ok (.aload_n 0, 1) := by decide +kernel
theorem dX6_counted_108 : decode cX6_counted 108 = .ok (.getfield 137, 3) := by decide +kernel
theorem dX6_counted_111 : decode cX6_counted 111 = .ok (.ireturn, 1) := by decide +kernel
theorem dX6_counted_112 : decode cX6_counted 112 = .ok (.aload_n 0, 1) := by decide +kernel
theorem dX6_counted_113 : decode cX6_counted 113 = .ok (.getfield 63, 3) := by decide +kernel
theorem dX6_counted_116 : decode cX6_counted 116 = .ok (.ireturn, 1) := by decide +kernel
theorem dX6_counted_117 : decode cX6_counted 117 = .ok (.aload_n 0, 1) := by decide +kernel
theorem dX6_counted_118 : decode cX6_counted 118 = .ok (.getfield 31, 3) := by decide +kernel
theorem dX6_counted_121 : decode cX6_counted 121 = .ok (.iload_n 1, 1) := by decide +kernel
theorem dX6_counted_122 : decode cX6_counted 122 = .ok (.invokevirtual 114, 3) := by decide +kernel
theorem dX6_counted_125 : decode cX6_counted 125 = .ok (.ireturn, 1) := by decide +kernel
theorem dX6_count_0 : decode cX6_count 0 = .ok (.aload_n 0, 1) := by decide +kernel
theorem dX6_count_1 : decode cX6_count 1 = .ok (.iconst 0, 1) := by decide +kernel
theorem dX6_count_2 : decode cX6_count 2 = .ok (.putfield 41, 3) := by decide +kernel
theorem dX6_count_5 : decode cX6_count 5 = .ok (.iload_n 1, 1) := by decide +kernel
theorem dX6_count_6 : decode cX6_count 6 = .ok (.iconst 0, 1) := by decide +kernel
theorem dX6_count_7 : decode cX6_count 7 = .ok (.bipush 8, 2) := by decide +kernel
theorem dX6_count_9 : decode cX6_count 9 = .ok (.invokestatic 45, 3) := by decide +kernel
theorem dX6_count_12 : decode cX6_count 12 = .ok (.ifCond .eq 11, 3) := by decide +kernel
theorem dX6_count_15 : decode cX6_count 15 = .ok (.aload_n 0, 1) := by decide +kernel
theorem dX6_count_16 : decode cX6_count 16 = .ok (.iload_n 1, 1) := by decide +kernel
theorem dX6_count_17 : decode cX6_count 17 = .ok (.invokevirtual 153, 3) := by decide +kernel
theorem dX6_count_20 : decode cX6_count 20 = .ok (.goto 8, 3) := by decide +kernel
theorem dX6_count_23 : decode cX6_count 23 = .ok (.aload_n 0, 1) := by decide +kernel
theorem dX6_count_24 : decode cX6_count 24 = .ok (.iconst 1, 1) := by decide +kernel
theorem dX6_count_25 : decode cX6_count 25 = .ok (.invokevirtual 104, 3) := by decide +kernel
theorem dX6_count_28 : decode cX6_count 28 = .ok (.ireturn, 1) := by decide +kernel
theorem dX6_untilDry_0 : decode cX6_untilDry 0 = .ok (.aload_n 0, 1) := by decide +kernel
theorem dX6_untilDry_1 : decode cX6_untilDry 1 = .ok (.getfield 31, 3) := by decide +kernel
theorem dX6_untilDry_4 : decode cX6_untilDry 4 = .ok (.iload_n 1, 1) := by decide +kernel
theorem dX6_untilDry_5 : decode cX6_untilDry 5 = .ok (.invokevirtual 56, 3) := by decide +kernel
theorem dX6_untilDry_8 : decode cX6_untilDry 8 = .ok (.ifCond .ne 5, 3) := by decide +kernel
theorem dX6_untilDry_11 : decode cX6_untilDry 11 = .ok (.iconst (-1), 1) := by decide +kernel
theorem dX6_untilDry_12 : decode cX6_untilDry 12 = .ok (.ireturn, 1) := by decide +kernel
theorem dX6_untilDry_13 : decode cX6_untilDry 13 = .ok (.aload_n 0, 1) := by decide +kernel
theorem dX6_untilDry_14 : decode cX6_untilDry 14 = .ok (.getfield 35, 3) := by decide +kernel
theorem dX6_untilDry_17 : decode cX6_untilDry 17 = .ok (.aload_n 0, 1) := by decide +kernel
theorem dX6_untilDry_18 : decode cX6_untilDry 18 = .ok (.getfield 31, 3) := by decide +kernel
theorem dX6_untilDry_21 : decode cX6_untilDry 21 = .ok (.invokevirtual 52, 3) := by decide +kernel
theorem dX6_untilDry_24 : decode cX6_untilDry 24 = .ok (.iconst 0, 1) := by decide +kernel
theorem dX6_untilDry_25 : decode cX6_untilDry 25 = .ok (.istore 4, 2) := by decide +kernel
theorem dX6_untilDry_27 : decode cX6_untilDry 27 = .ok (.iload 4, 2) := by decide +kernel
theorem dX6_untilDry_29 : decode cX6_untilDry 29 = .ok (.bipush 90, 2) := by decide +kernel
theorem dX6_untilDry_31 : decode cX6_untilDry 31 = .ok (.if_icmp .gt 33, 3) := by decide +kernel
theorem dX6_untilDry_34 : decode cX6_untilDry 34 = .ok (.aload_n 0, 1) := by decide +kernel
theorem dX6_untilDry_35 : decode cX6_untilDry 35 = .ok (.getfield 35, 3) := by decide +kernel
theorem dX6_untilDry_38 : decode cX6_untilDry 38 = .ok (.iload_n 1, 1) := by decide +kernel
theorem dX6_untilDry_39 : decode cX6_untilDry 39 = .ok (.invokevirtual 85, 3) := by decide +kernel
theorem dX6_untilDry_42 : decode cX6_untilDry 42 = .ok (.iload_n 2, 1) := by decide +kernel
theorem dX6_untilDry_43 : decode cX6_untilDry 43 = .ok (.if_icmp .gt 6, 3) := by decide +kernel
theorem dX6_untilDry_46 : decode cX6_untilDry 46 = .ok (.iload 4, 2) := by decide +kernel
theorem dX6_untilDry_48 : decode cX6_untilDry 48 = .ok (.ireturn, 1) := by decide +kernel
theorem dX6_untilDry_49 : decode cX6_untilDry 49 = .ok (.aload_n 0, 1) := by decide +kernel
theorem dX6_untilDry_50 : decode cX6_untilDry 50 = .ok (.aload_n 0, 1) := by decide +kernel
theorem dX6_untilDry_51 : decode cX6_untilDry 51 = .ok (.getfield 35, 3) := by decide +kernel
theorem dX6_untilDry_54 : decode cX6_untilDry 54 = .ok (.iload_n 3, 1) := by decide +kernel
theorem dX6_untilDry_55 : decode cX6_untilDry 55 = .ok (.invokevirtual 100, 3) := by decide +kernel
theorem dX6_untilDry_58 : decode cX6_untilDry 58 = .ok (.iinc 4 1, 3) := by decide +kernel
theorem dX6_untilDry_61 : decode cX6_untilDry 61 = .ok (.goto (-34), 3) := by decide +kernel
theorem dX6_untilDry_64 : decode cX6_untilDry 64 = .ok (.iconst (-1), 1) := by decide +kernel
theorem dX6_untilDry_65 : decode cX6_untilDry 65 = .ok (.ireturn, 1) := by decide +kernel
theorem dX6_until_0 : decode cX6_until 0 = .ok (.aload_n 0, 1) := by decide +kernel
theorem dX6_until_1 : decode cX6_until 1 = .ok (.iconst 0, 1) := by decide +kernel
theorem dX6_until_2 : decode cX6_until 2 = .ok (.putfield 41, 3) := by decide +kernel
theorem dX6_until_5 : decode cX6_until 5 = .ok (.iload_n 1, 1) := by decide +kernel
theorem dX6_until_6 : decode cX6_until 6 = .ok (.iload_n 2, 1) := by decide +kernel
theorem dX6_until_7 : decode cX6_until 7 = .ok (.invokestatic 107, 3) := by decide +kernel
theorem dX6_until_10 : decode cX6_until 10 = .ok (.ifCond .ne 9, 3) := by decide +kernel
theorem dX6_until_13 : decode cX6_until 13 = .ok (.aload_n 0, 1) := by decide +kernel
theorem dX6_until_14 : decode cX6_until 14 = .ok (.iconst 1, 1) := by decide +kernel
theorem dX6_until_15 : decode cX6_until 15 = .ok (.invokevirtual 104, 3) := by decide +kernel
theorem dX6_until_18 : decode cX6_until 18 = .ok (.ireturn, 1) := by decide +kernel
theorem dX6_until_19 : decode cX6_until 19 = .ok (.iload_n 3, 1) := by decide +kernel
theorem dX6_until_20 : decode cX6_until 20 = .ok (.iconst 0, 1) := by decide +kernel
theorem dX6_until_21 : decode cX6_until 21 = .ok (.bipush 100, 2) := by decide +kernel
theorem dX6_until_23 : decode cX6_until 23 = .ok (.invokestatic 45, 3) := by decide +kernel
theorem dX6_until_26 : decode cX6_until 26 = .ok (.ifCond .eq 30, 3) := by decide +kernel
theorem dX6_until_29 : decode cX6_until 29 = .ok (.iload 4, 2) := by decide +kernel
theorem dX6_until_31 : decode cX6_until 31 = .ok (.iconst 0, 1) := by decide +kernel
theorem dX6_until_32 : decode cX6_until 32 = .ok (.bipush 9, 2) := by decide +kernel
theorem dX6_until_34 : decode cX6_until 34 = .ok (.invokestatic 45, 3) := by decide +kernel
theorem dX6_until_37 : decode cX6_until 37 = .ok (.ifCond .eq 19, 3) := by decide +kernel
theorem dX6_until_40 : decode cX6_until 40 = .ok (.aload_n 0, 1) := by decide +kernel
theorem dX6_until_41 : decode cX6_until 41 = .ok (.bipush 8, 2) := by decide +kernel
theorem dX6_until_43 : decode cX6_until 43 = .ok (.iload_n 1, 1) := by decide +kernel
theorem dX6_until_44 : decode cX6_until 44 = .ok (.imul, 1) := by decide +kernel
theorem dX6_until_45 : decode cX6_until 45 = .ok (.iload_n 2, 1) := by decide +kernel
theorem dX6_until_46 : decode cX6_until 46 = .ok (.iadd, 1) := by decide +kernel
theorem dX6_until_47 : decode cX6_until 47 = .ok (.iload_n 3, 1) := by decide +kernel
theorem dX6_until_48 : decode cX6_until 48 = .ok (.iload 4, 2) := by decide +kernel
theorem dX6_until_50 : decode cX6_until 50 = .ok (.invokevirtual 156, 3) := by decide +kernel
theorem dX6_until_53 : decode cX6_until 53 = .ok (.goto 8, 3) := by decide +kernel
theorem dX6_until_56 : decode cX6_until 56 = .ok (.aload_n 0, 1) := by decide +kernel
theorem dX6_until_57 : decode cX6_until 57 = .ok (.iconst 2, 1) := by decide +kernel
theorem dX6_until_58 : decode cX6_until 58 = .ok (.invokevirtual 104, 3) := by decide +kernel
theorem dX6_until_61 : decode cX6_until 61 = .ok (.ireturn, 1) := by decide +kernel
theorem dX6_foresee_0 : decode cX6_foresee 0 = .ok (.aload_n 0, 1) := by decide +kernel
theorem dX6_foresee_1 : decode cX6_foresee 1 = .ok (.iconst 0, 1) := by decide +kernel
theorem dX6_foresee_2 : decode cX6_foresee 2 = .ok (.putfield 41, 3) := by decide +kernel
theorem dX6_foresee_5 : decode cX6_foresee 5 = .ok (.iload_n 1, 1) := by decide +kernel
theorem dX6_foresee_6 : decode cX6_foresee 6 = .ok (.iconst 1, 1) := by decide +kernel
theorem dX6_foresee_7 : decode cX6_foresee 7 = .ok (.bipush 60, 2) := by decide +kernel
theorem dX6_foresee_9 : decode cX6_foresee 9 = .ok (.invokestatic 45, 3) := by decide +kernel
theorem dX6_foresee_12 : decode cX6_foresee 12 = .ok (.ifCond .eq 13, 3) := by decide +kernel
theorem dX6_foresee_15 : decode cX6_foresee 15 = .ok (.iload_n 2, 1) := by decide +kernel
theorem dX6_foresee_16 : decode cX6_foresee 16 = .ok (.iconst 0, 1) := by decide +kernel
theorem dX6_foresee_17 : decode cX6_foresee 17 = .ok (.bipush 9, 2) := by decide +kernel
theorem dX6_foresee_19 : decode cX6_foresee 19 = .ok (.invokestatic 45, 3) := by decide +kernel
theorem dX6_foresee_22 : decode cX6_foresee 22 = .ok (.ifCond .ne 9, 3) := by decide +kernel
theorem dX6_foresee_25 : decode cX6_foresee 25 = .ok (.aload_n 0, 1) := by decide +kernel
theorem dX6_foresee_26 : decode cX6_foresee 26 = .ok (.iconst 1, 1) := by decide +kernel
theorem dX6_foresee_27 : decode cX6_foresee 27 = .ok (.invokevirtual 104, 3) := by decide +kernel
theorem dX6_foresee_30 : decode cX6_foresee 30 = .ok (.ireturn, 1) := by decide +kernel
theorem dX6_foresee_31 : decode cX6_foresee 31 = .ok (.iload_n 3, 1) := by decide +kernel
theorem dX6_foresee_32 : decode cX6_foresee 32 = .ok (.iconst 3, 1) := by decide +kernel
theorem dX6_foresee_33 : decode cX6_foresee 33 = .ok (.if_icmp .eq 15, 3) := by decide +kernel
theorem dX6_foresee_36 : decode cX6_foresee 36 = .ok (.iload_n 3, 1) := by decide +kernel
theorem dX6_foresee_37 : decode cX6_foresee 37 = .ok (.bipush 8, 2) := by decide +kernel
theorem dX6_foresee_39 : decode cX6_foresee 39 = .ok (.if_icmp .eq 9, 3) := by decide +kernel
theorem dX6_foresee_42 : decode cX6_foresee 42 = .ok (.aload_n 0, 1) := by decide +kernel
theorem dX6_foresee_43 : decode cX6_foresee 43 = .ok (.iconst 2, 1) := by decide +kernel
theorem dX6_foresee_44 : decode cX6_foresee 44 = .ok (.invokevirtual 104, 3) := by decide +kernel
theorem dX6_foresee_47 : decode cX6_foresee 47 = .ok (.ireturn, 1) := by decide +kernel
theorem dX6_foresee_48 : decode cX6_foresee 48 = .ok (.aload_n 0, 1) := by decide +kernel
theorem dX6_foresee_49 : decode cX6_foresee 49 = .ok (.getfield 35, 3) := by decide +kernel
theorem dX6_foresee_52 : decode cX6_foresee 52 = .ok (.aload_n 0, 1) := by decide +kernel
theorem dX6_foresee_53 : decode cX6_foresee 53 = .ok (.getfield 31, 3) := by decide +kernel
theorem dX6_foresee_56 : decode cX6_foresee 56 = .ok (.invokevirtual 52, 3) := by decide +kernel
theorem dX6_foresee_59 : decode cX6_foresee 59 = .ok (.aload_n 0, 1) := by decide +kernel
theorem dX6_foresee_60 : decode cX6_foresee 60 = .ok (.aload_n 0, 1) := by decide +kernel
theorem dX6_foresee_61 : decode cX6_foresee 61 = .ok (.getfield 35, 3) := by decide +kernel
theorem dX6_foresee_64 : decode cX6_foresee 64 = .ok (.iload_n 1, 1) := by decide +kernel
theorem dX6_foresee_65 : decode cX6_foresee 65 = .ok (.iload_n 2, 1) := by decide +kernel
theorem dX6_foresee_66 : decode cX6_foresee 66 = .ok (.invokevirtual 140, 3) := by decide +kernel
theorem dX6_foresee_69 : decode cX6_foresee 69 = .ok (.aload_n 0, 1) := by decide +kernel
theorem dX6_foresee_70 : decode cX6_foresee 70 = .ok (.getfield 35, 3) := by decide +kernel
theorem dX6_foresee_73 : decode cX6_foresee 73 = .ok (.iload_n 3, 1) := by decide +kernel
theorem dX6_foresee_74 : decode cX6_foresee 74 = .ok (.invokevirtual 114, 3) := by decide +kernel
theorem dX6_foresee_77 : decode cX6_foresee 77 = .ok (.ireturn, 1) := by decide +kernel
theorem dX6_badBehind_0 : decode cX6_badBehind 0 = .ok (.aload_n 0, 1) := by decide +kernel
theorem dX6_badBehind_1 : decode cX6_badBehind 1 = .ok (.getfield 35, 3) := by decide +kernel
theorem dX6_badBehind_4 : decode cX6_badBehind 4 = .ok (.aload_n 0, 1) := by decide +kernel
theorem dX6_badBehind_5 : decode cX6_badBehind 5 = .ok (.getfield 31, 3) := by decide +kernel
theorem dX6_badBehind_8 : decode cX6_badBehind 8 = .ok (.invokevirtual 52, 3) := by decide +kernel
theorem dX6_badBehind_11 : decode cX6_badBehind 11 = .ok (.iload_n 1, 1) := by decide +kernel
theorem dX6_badBehind_12 : decode cX6_badBehind 12 = .ok (.iconst (-1), 1) := by decide +kernel
theorem dX6_badBehind_13 : decode cX6_badBehind 13 = .ok (.if_icmp .eq 11, 3) := by decide +kernel
theorem dX6_badBehind_16 : decode cX6_badBehind 16 = .ok (.aload_n 0, 1) := by decide +kernel
theorem dX6_badBehind_17 : decode cX6_badBehind 17 = .ok (.getfield 35, 3) := by decide +kernel
theorem dX6_badBehind_20 : decode cX6_badBehind 20 = .ok (.iload_n 1, 1) := by decide +kernel
theorem dX6_badBehind_21 : decode cX6_badBehind 21 = .ok (.invokevirtual 124, 3) := by decide +kernel
theorem dX6_badBehind_24 : decode cX6_badBehind 24 = .ok (.aload_n 0, 1) := by decide +kernel
theorem dX6_badBehind_25 : decode cX6_badBehind 25 = .ok (.aload_n 0, 1) := by decide +kernel
theorem dX6_badBehind_26 : decode cX6_badBehind 26 = .ok (.getfield 35, 3) := by decide +kernel
theorem dX6_badBehind_29 : decode cX6_badBehind 29 = .ok (.iload_n 2, 1) := by decide +kernel
theorem dX6_badBehind_30 : decode cX6_badBehind 30 = .ok (.iload_n 3, 1) := by decide +kernel
theorem dX6_badBehind_31 : decode cX6_badBehind 31 = .ok (.invokevirtual 140, 3) := by decide +kernel
theorem dX6_badBehind_34 : decode cX6_badBehind 34 = .ok (.sipush 10000, 3) := by decide +kernel
theorem dX6_badBehind_37 : decode cX6_badBehind 37 = .ok (.aload_n 0, 1) := by decide +kernel
theorem dX6_badBehind_38 : decode cX6_badBehind 38 = .ok (.getfield 35, 3) := by decide +kernel
theorem dX6_badBehind_41 : decode cX6_badBehind 41 = .ok (.iconst 3, 1) := by decide +kernel
theorem dX6_badBehind_42 : decode cX6_badBehind 42 = .ok (.invokevirtual 114, 3) := by decide +kernel
theorem dX6_badBehind_45 : decode cX6_badBehind 45 = .ok (.imul, 1) := by decide +kernel
theorem dX6_badBehind_46 : decode cX6_badBehind 46 = .ok (.aload_n 0, 1) := by decide +kernel
theorem dX6_badBehind_47 : decode cX6_badBehind 47 = .ok (.getfield 35, 3) := by decide +kernel
theorem dX6_badBehind_50 : decode cX6_badBehind 50 = .ok (.bipush 8, 2) := by decide +kernel
theorem dX6_badBehind_52 : decode cX6_badBehind 52 = .ok (.invokevirtual 114, 3) := by decide +kernel
theorem dX6_badBehind_55 : decode cX6_badBehind 55 = .ok (.iadd, 1) := by decide +kernel
theorem dX6_badBehind_56 : decode cX6_badBehind 56 = .ok (.ireturn, 1) := by decide +kernel
theorem dX6_bestString_0 : decode cX6_bestString 0 = .ok (.iconst (-1), 1) := by decide +kernel
theorem dX6_bestString_1 : decode cX6_bestString 1 = .ok (.istore_n 3, 1) := by decide +kernel
theorem dX6_bestString_2 : decode cX6_bestString 2 = .ok (.aload_n 0, 1) := by decide +kernel
theorem dX6_bestString_3 : decode cX6_bestString 3 = .ok (.iconst (-1), 1) := by decide +kernel
theorem dX6_bestString_4 : decode cX6_bestString 4 = .ok (.iload_n 1, 1) := by decide +kernel
theorem dX6_bestString_5 : decode cX6_bestString 5 = .ok (.iload_n 2, 1) := by decide +kernel
theorem dX6_bestString_6 : decode cX6_bestString 6 = .ok (.invokevirtual 160, 3) := by decide +kernel
theorem dX6_bestString_9 : decode cX6_bestString 9 = .ok (.istore 4, 2) := by decide +kernel
theorem dX6_bestString_11 : decode cX6_bestString 11 = .ok (.iconst 0, 1) := by decide +kernel
theorem dX6_bestString_12 : decode cX6_bestString 12 = .ok (.istore 5, 2) := by decide +kernel
theorem dX6_bestString_14 : decode cX6_bestString 14 = .ok (.iload 5, 2) := by decide +kernel
theorem dX6_bestString_16 : decode cX6_bestString 16 = .ok (.iconst 5, 1) := by decide +kernel
theorem dX6_bestString_17 : decode cX6_bestString 17 = .ok (.if_icmp .ge 36, 3) := by decide +kernel
theorem dX6_bestString_20 : decode cX6_bestString 20 = .ok (.aload_n 0, 1) := by decide +kernel
theorem dX6_bestString_21 : decode cX6_bestString 21 = .ok (.iload 5, 2) := by decide +kernel
theorem dX6_bestString_23 : decode cX6_bestString 23 = .ok (.iload_n 1, 1) := by decide +kernel
theorem dX6_bestString_24 : decode cX6_bestString 24 = .ok (.iload_n 2, 1) := by decide +kernel
theorem dX6_bestString_25 : decode cX6_bestString 25 = .ok (.invokevirtual 160, 3) := by decide +kernel
theorem dX6_bestString_28 : decode cX6_bestString 28 = .ok (.istore 6, 2) := by decide +kernel
theorem dX6_bestString_30 : decode cX6_bestString 30 = .ok (.iload 6, 2) := by decide +kernel
theorem dX6_bestString_32 : decode cX6_bestString 32 = .ok (.iload 4, 2) := by decide +kernel
theorem dX6_bestString_34 : decode cX6_bestString 34 = .ok (.if_icmp .lt 6, 3) := by decide +kernel
theorem dX6_bestString_37 : decode cX6_bestString 37 = .ok (.goto 10, 3) := by decide +kernel
theorem dX6_bestString_40 : decode cX6_bestString 40 = .ok (.iload 5, 2) := by decide +kernel
theorem dX6_bestString_42 : decode cX6_bestString 42 = .ok (.istore_n 3, 1) := by decide +kernel
theorem dX6_bestString_43 : decode cX6_bestString 43 = .ok (.iload 6, 2) := by decide +kernel
theorem dX6_bestString_45 : decode cX6_bestString 45 = .ok (.istore 4, 2) := by decide +kernel
theorem dX6_bestString_47 : decode cX6_bestString 47 = .ok (.iinc 5 1, 3) := by decide +kernel
theorem dX6_bestString_50 : decode cX6_bestString 50 = .ok (.goto (-36), 3) := by decide +kernel
theorem dX6_bestString_53 : decode cX6_bestString 53 = .ok (.iload_n 3, 1) := by decide +kernel
theorem dX6_bestString_54 : decode cX6_bestString 54 = .ok (.ireturn, 1) := by decide +kernel
theorem dX6_advise_0 : decode cX6_advise 0 = .ok (.aload_n 0, 1) := by decide +kernel
theorem dX6_advise_1 : decode cX6_advise 1 = .ok (.iconst 0, 1) := by decide +kernel
theorem dX6_advise_2 : decode cX6_advise 2 = .ok (.putfield 41, 3) := by decide +kernel
theorem dX6_advise_5 : decode cX6_advise 5 = .ok (.iload_n 1, 1) := by decide +kernel
theorem dX6_advise_6 : decode cX6_advise 6 = .ok (.iconst 1, 1) := by decide +kernel
theorem dX6_advise_7 : decode cX6_advise 7 = .ok (.bipush 30, 2) := by decide +kernel
theorem dX6_advise_9 : decode cX6_advise 9 = .ok (.invokestatic 45, 3) := by decide +kernel
theorem dX6_advise_12 : decode cX6_advise 12 = .ok (.ifCond .eq 22, 3) := by decide +kernel
theorem dX6_advise_15 : decode cX6_advise 15 = .ok (.iload_n 2, 1) := by decide +kernel
theorem dX6_advise_16 : decode cX6_advise 16 = .ok (.iconst 0, 1) := by decide +kernel
theorem dX6_advise_17 : decode cX6_advise 17 = .ok (.bipush 9, 2) := by decide +kernel
theorem dX6_advise_19 : decode cX6_advise 19 = .ok (.invokestatic 45, 3) := by decide +kernel
theorem dX6_advise_22 : decode cX6_advise 22 = .ok (.ifCond .eq 12, 3) := by decide +kernel
theorem dX6_advise_25 : decode cX6_advise 25 = .ok (.aload_n 0, 1) := by decide +kernel
theorem dX6_advise_26 : decode cX6_advise 26 = .ok (.iload_n 1, 1) := by decide +kernel
theorem dX6_advise_27 : decode cX6_advise 27 = .ok (.iload_n 2, 1) := by decide +kernel
theorem dX6_advise_28 : decode cX6_advise 28 = .ok (.invokevirtual 163, 3) := by decide +kernel
theorem dX6_advise_31 : decode cX6_advise 31 = .ok (.goto 8, 3) := by decide +kernel
theorem dX6_advise_34 : decode cX6_advise 34 = .ok (.aload_n 0, 1) := by decide +kernel
theorem dX6_advise_35 : decode cX6_advise 35 = .ok (.iconst 1, 1) := by decide +kernel
theorem dX6_advise_36 : decode cX6_advise 36 = .ok (.invokevirtual 104, 3) := by decide +kernel
theorem dX6_advise_39 : decode cX6_advise 39 = .ok (.ireturn, 1) := by decide +kernel
theorem dX6_mean_0 : decode cX6_mean 0 = .ok (.aload_n 0, 1) := by decide +kernel
theorem dX6_mean_1 : decode cX6_mean 1 = .ok (.iconst 0, 1) := by decide +kernel
theorem dX6_mean_2 : decode cX6_mean 2 = .ok (.putfield 41, 3) := by decide +kernel
theorem dX6_mean_5 : decode cX6_mean 5 = .ok (.aload_n 0, 1) := by decide +kernel
theorem dX6_mean_6 : decode cX6_mean 6 = .ok (.getfield 31, 3) := by decide +kernel
theorem dX6_mean_9 : decode cX6_mean 9 = .ok (.iconst 2, 1) := by decide +kernel
theorem dX6_mean_10 : decode cX6_mean 10 = .ok (.invokevirtual 114, 3) := by decide +kernel
theorem dX6_mean_13 : decode cX6_mean 13 = .ok (.istore_n 1, 1) := by decide +kernel
theorem dX6_mean_14 : decode cX6_mean 14 = .ok (.iload_n 1, 1) := by decide +kernel
theorem dX6_mean_15 : decode cX6_mean 15 = .ok (.ifCond .ne 7, 3) := by decide +kernel
theorem dX6_mean_18 : decode cX6_mean 18 = .ok (.dconst 0, 1) := by decide +kernel
theorem dX6_mean_19 : decode cX6_mean 19 = .ok (.goto 16, 3) := by decide +kernel
theorem dX6_mean_22 : decode cX6_mean 22 = .ok (.aload_n 0, 1) := by decide +kernel
theorem dX6_mean_23 : decode cX6_mean 23 = .ok (.getfield 31, 3) := by decide +kernel
theorem dX6_mean_26 : decode cX6_mean 26 = .ok (.bipush 8, 2) := by decide +kernel
theorem dX6_mean_28 : decode cX6_mean 28 = .ok (.invokevirtual 114, 3) := by decide +kernel
theorem dX6_mean_31 : decode cX6_mean 31 = .ok (.i2d, 1) := by decide +kernel
theorem dX6_mean_32 : decode cX6_mean 32 = .ok (.iload_n 1, 1) := by decide +kernel
theorem dX6_mean_33 : decode cX6_mean 33 = .ok (.i2d, 1) := by decide +kernel
theorem dX6_mean_34 : decode cX6_mean 34 = .ok (.ddiv, 1) := by decide +kernel
theorem dX6_mean_35 : decode cX6_mean 35 = .ok (.dreturn, 1) := by decide +kernel
theorem dX6_digest_0 : decode cX6_digest 0 = .ok (.aload_n 0, 1) := by decide +kernel
theorem dX6_digest_1 : decode cX6_digest 1 = .ok (.iconst 0, 1) := by decide +kernel
theorem dX6_digest_2 : decode cX6_digest 2 = .ok (.putfield 41, 3) := by decide +kernel
theorem dX6_digest_5 : decode cX6_digest 5 = .ok (.ldc2_w 166, 3) := by decide +kernel
theorem dX6_digest_8 : decode cX6_digest 8 = .ok (.lstore_n 1, 1) := by decide +kernel
theorem dX6_digest_9 : decode cX6_digest 9 = .ok (.iconst 0, 1) := by decide +kernel
theorem dX6_digest_10 : decode cX6_digest 10 = .ok (.istore_n 3, 1) := by decide +kernel
theorem dX6_digest_11 : decode cX6_digest 11 = .ok (.iload_n 3, 1) := by decide +kernel
theorem dX6_digest_12 : decode cX6_digest 12 = .ok (.bipush 8, 2) := by decide +kernel
theorem dX6_digest_14 : decode cX6_digest 14 = .ok (.if_icmp .gt 22, 3) := by decide +kernel
theorem dX6_digest_17 : decode cX6_digest 17 = .ok (.lload_n 1, 1) := by decide +kernel
theorem dX6_digest_18 : decode cX6_digest 18 = .ok (.ldc2_w 168, 3) := by decide +kernel
theorem dX6_digest_21 : decode cX6_digest 21 = .ok (.lmul, 1) := by decide +kernel
theorem dX6_digest_22 : decode cX6_digest 22 = .ok (.aload_n 0, 1) := by decide +kernel
theorem dX6_digest_23 : decode cX6_digest 23 = .ok (.iload_n 3, 1) := by decide +kernel
theorem dX6_digest_24 : decode cX6_digest 24 = .ok (.invokevirtual 153, 3) := by decide +kernel
theorem dX6_digest_27 : decode cX6_digest 27 = .ok (.i2l, 1) := by decide +kernel
theorem dX6_digest_28 : decode cX6_digest 28 = .ok (.ladd, 1) := by decide +kernel
theorem dX6_digest_29 : decode cX6_digest 29 = .ok (.lstore_n 1, 1) := by decide +kernel
theorem dX6_digest_30 : decode cX6_digest 30 = .ok (.iinc 3 1, 3) := by decide +kernel
theorem dX6_digest_33 : decode cX6_digest 33 = .ok (.goto (-22), 3) := by decide +kernel
theorem dX6_digest_36 : decode cX6_digest 36 = .ok (.iconst 0, 1) := by decide +kernel
theorem dX6_digest_37 : decode cX6_digest 37 = .ok (.istore_n 3, 1) := by decide +kernel
theorem dX6_digest_38 : decode cX6_digest 38 = .ok (.iload_n 3, 1) := by decide +kernel
theorem dX6_digest_39 : decode cX6_digest 39 = .ok (.aload_n 0, 1) := by decide +kernel
theorem dX6_digest_40 : decode cX6_digest 40 = .ok (.getfield 49, 3) := by decide +kernel
theorem dX6_digest_43 : decode cX6_digest 43 = .ok (.if_icmp .ge 39, 3) := by decide +kernel
theorem dX6_digest_46 : decode cX6_digest 46 = .ok (.iconst 0, 1) := by decide +kernel
theorem dX6_digest_47 : decode cX6_digest 47 = .ok (.istore 4, 2) := by decide +kernel
theorem dX6_digest_49 : decode cX6_digest 49 = .ok (.iload 4, 2) := by decide +kernel
theorem dX6_digest_51 : decode cX6_digest 51 = .ok (.iconst 4, 1) := by decide +kernel
theorem dX6_digest_52 : decode cX6_digest 52 = .ok (.if_icmp .gt 24, 3) := by decide +kernel
theorem dX6_digest_55 : decode cX6_digest 55 = .ok (.lload_n 1, 1) := by decide +kernel
theorem dX6_digest_56 : decode cX6_digest 56 = .ok (.ldc2_w 168, 3) := by decide +kernel
theorem dX6_digest_59 : decode cX6_digest 59 = .ok (.lmul, 1) := by decide +kernel
theorem dX6_digest_60 : decode cX6_digest 60 = .ok (.aload_n 0, 1) := by decide +kernel
theorem dX6_digest_61 : decode cX6_digest 61 = .ok (.iload_n 3, 1) := by decide +kernel
theorem dX6_digest_62 : decode cX6_digest 62 = .ok (.iload 4, 2) := by decide +kernel
theorem dX6_digest_64 : decode cX6_digest 64 = .ok (.invokevirtual 147, 3) := by decide +kernel
theorem dX6_digest_67 : decode cX6_digest 67 = .ok (.i2l, 1) := by decide +kernel
theorem dX6_digest_68 : decode cX6_digest 68 = .ok (.ladd, 1) := by decide +kernel
theorem dX6_digest_69 : decode cX6_digest 69 = .ok (.lstore_n 1, 1) := by decide +kernel
theorem dX6_digest_70 : decode cX6_digest 70 = .ok (.iinc 4 1, 3) := by decide +kernel
theorem dX6_digest_73 : decode cX6_digest 73 = .ok (.goto (-24), 3) := by decide +kernel
theorem dX6_digest_76 : decode cX6_digest 76 = .ok (.iinc 3 1, 3) := by decide +kernel
theorem dX6_digest_79 : decode cX6_digest 79 = .ok (.goto (-41), 3) := by decide +kernel
theorem dX6_digest_82 : decode cX6_digest 82 = .ok (.iconst 0, 1) := by decide +kernel
theorem dX6_digest_83 : decode cX6_digest 83 = .ok (.istore_n 3, 1) := by decide +kernel
theorem dX6_digest_84 : decode cX6_digest 84 = .ok (.iload_n 3, 1) := by decide +kernel
theorem dX6_digest_85 : decode cX6_digest 85 = .ok (.aload_n 0, 1) := by decide +kernel
theorem dX6_digest_86 : decode cX6_digest 86 = .ok (.getfield 128, 3) := by decide +kernel
theorem dX6_digest_89 : decode cX6_digest 89 = .ok (.if_icmp .ge 39, 3) := by decide +kernel
theorem dX6_digest_92 : decode cX6_digest 92 = .ok (.iconst 0, 1) := by decide +kernel
theorem dX6_digest_93 : decode cX6_digest 93 = .ok (.istore 4, 2) := by decide +kernel
theorem dX6_digest_95 : decode cX6_digest 95 = .ok (.iload 4, 2) := by decide +kernel
theorem dX6_digest_97 : decode cX6_digest 97 = .ok (.iconst 4, 1) := by decide +kernel
theorem dX6_digest_98 : decode cX6_digest 98 = .ok (.if_icmp .gt 24, 3) := by decide +kernel
theorem dX6_digest_101 : decode cX6_digest 101 = .ok (.lload_n 1, 1) := by decide +kernel
theorem dX6_digest_102 : decode cX6_digest 102 = .ok (.ldc2_w 168, 3) := by decide +kernel
theorem dX6_digest_105 : decode cX6_digest 105 = .ok (.lmul, 1) := by decide +kernel
theorem dX6_digest_106 : decode cX6_digest 106 = .ok (.aload_n 0, 1) := by decide +kernel
theorem dX6_digest_107 : decode cX6_digest 107 = .ok (.iload_n 3, 1) := by decide +kernel
theorem dX6_digest_108 : decode cX6_digest 108 = .ok (.iload 4, 2) := by decide +kernel
theorem dX6_digest_110 : decode cX6_digest 110 = .ok (.invokevirtual 150, 3) := by decide +kernel
theorem dX6_digest_113 : decode cX6_digest 113 = .ok (.i2l, 1) := by decide +kernel
theorem dX6_digest_114 : decode cX6_digest 114 = .ok (.ladd, 1) := by decide +kernel
theorem dX6_digest_115 : decode cX6_digest 115 = .ok (.lstore_n 1, 1) := by decide +kernel
theorem dX6_digest_116 : decode cX6_digest 116 = .ok (.iinc 4 1, 3) := by decide +kernel
theorem dX6_digest_119 : decode cX6_digest 119 = .ok (.goto (-24), 3) := by decide +kernel
theorem dX6_digest_122 : decode cX6_digest 122 = .ok (.iinc 3 1, 3) := by decide +kernel
theorem dX6_digest_125 : decode cX6_digest 125 = .ok (.goto (-41), 3) := by decide +kernel
theorem dX6_digest_128 : decode cX6_digest 128 = .ok (.iconst 0, 1) := by decide +kernel
theorem dX6_digest_129 : decode cX6_digest 129 = .ok (.istore_n 3, 1) := by decide +kernel
theorem dX6_digest_130 : decode cX6_digest 130 = .ok (.iload_n 3, 1) := by decide +kernel
theorem dX6_digest_131 : decode cX6_digest 131 = .ok (.bipush 40, 2) := by decide +kernel
theorem dX6_digest_133 : decode cX6_digest 133 = .ok (.if_icmp .ge 39, 3) := by decide +kernel
theorem dX6_digest_136 : decode cX6_digest 136 = .ok (.iconst 0, 1) := by decide +kernel
theorem dX6_digest_137 : decode cX6_digest 137 = .ok (.istore 4, 2) := by decide +kernel
theorem dX6_digest_139 : decode cX6_digest 139 = .ok (.iload 4, 2) := by decide +kernel
theorem dX6_digest_141 : decode cX6_digest 141 = .ok (.iconst 5, 1) := by decide +kernel
theorem dX6_digest_142 : decode cX6_digest 142 = .ok (.if_icmp .gt 24, 3) := by decide +kernel
theorem dX6_digest_145 : decode cX6_digest 145 = .ok (.lload_n 1, 1) := by decide +kernel
theorem dX6_digest_146 : decode cX6_digest 146 = .ok (.ldc2_w 168, 3) := by decide +kernel
theorem dX6_digest_149 : decode cX6_digest 149 = .ok (.lmul, 1) := by decide +kernel
theorem dX6_digest_150 : decode cX6_digest 150 = .ok (.aload_n 0, 1) := by decide +kernel
theorem dX6_digest_151 : decode cX6_digest 151 = .ok (.iload_n 3, 1) := by decide +kernel
theorem dX6_digest_152 : decode cX6_digest 152 = .ok (.iload 4, 2) := by decide +kernel
theorem dX6_digest_154 : decode cX6_digest 154 = .ok (.invokevirtual 144, 3) := by decide +kernel
theorem dX6_digest_157 : decode cX6_digest 157 = .ok (.i2l, 1) := by decide +kernel
theorem dX6_digest_158 : decode cX6_digest 158 = .ok (.ladd, 1) := by decide +kernel
theorem dX6_digest_159 : decode cX6_digest 159 = .ok (.lstore_n 1, 1) := by decide +kernel
theorem dX6_digest_160 : decode cX6_digest 160 = .ok (.iinc 4 1, 3) := by decide +kernel
theorem dX6_digest_163 : decode cX6_digest 163 = .ok (.goto (-24), 3) := by decide +kernel
theorem dX6_digest_166 : decode cX6_digest 166 = .ok (.iinc 3 1, 3) := by decide +kernel
theorem dX6_digest_169 : decode cX6_digest 169 = .ok (.goto (-39), 3) := by decide +kernel
theorem dX6_digest_172 : decode cX6_digest 172 = .ok (.lload_n 1, 1) := by decide +kernel
theorem dX6_digest_173 : decode cX6_digest 173 = .ok (.lreturn, 1) := by decide +kernel
theorem dJ9_max_7cf53_0 : decode cJ9_max_7cf53 0 = .ok (.iload_n 0, 1) := by decide +kernel
theorem dJ9_max_7cf53_1 : decode cJ9_max_7cf53 1 = .ok (.iload_n 1, 1) := by decide +kernel
theorem dJ9_max_7cf53_2 : decode cJ9_max_7cf53 2 = .ok (.if_icmp .lt 7, 3) := by decide +kernel
theorem dJ9_max_7cf53_5 : decode cJ9_max_7cf53 5 = .ok (.iload_n 0, 1) := by decide +kernel
theorem dJ9_max_7cf53_6 : decode cJ9_max_7cf53 6 = .ok (.goto 4, 3) := by decide +kernel
theorem dJ9_max_7cf53_9 : decode cJ9_max_7cf53 9 = .ok (.iload_n 1, 1) := by decide +kernel
theorem dJ9_max_7cf53_10 : decode cJ9_max_7cf53 10 = .ok (.ireturn, 1) := by decide +kernel
theorem dJ9_min_7cf53_0 : decode cJ9_min_7cf53 0 = .ok (.iload_n 0, 1) := by decide +kernel
theorem dJ9_min_7cf53_1 : decode cJ9_min_7cf53 1 = .ok (.iload_n 1, 1) := by decide +kernel
theorem dJ9_min_7cf53_2 : decode cJ9_min_7cf53 2 = .ok (.if_icmp .gt 7, 3) := by decide +kernel
theorem dJ9_min_7cf53_5 : decode cJ9_min_7cf53 5 = .ok (.iload_n 0, 1) := by decide +kernel
theorem dJ9_min_7cf53_6 : decode cJ9_min_7cf53 6 = .ok (.goto 4, 3) := by decide +kernel
theorem dJ9_min_7cf53_9 : decode cJ9_min_7cf53 9 = .ok (.iload_n 1, 1) := by decide +kernel
theorem dJ9_min_7cf53_10 : decode cJ9_min_7cf53 10 = .ok (.ireturn, 1) := by decide +kernel
theorem dJxa1e45_init_da8c8_0 : decode cJxa1e45_init_da8c8 0 = .ok (.aload_n 0, 1) := by decide +kernel
theorem dJxa1e45_init_da8c8_1 : decode cJxa1e45_init_da8c8 1 = .ok (.invokespecial 1, 3) := by decide +kernel
theorem dJxa1e45_init_da8c8_4 : decode cJxa1e45_init_da8c8 4 = .ok (.return_, 1) := by decide +kernel
theorem dJxc12de_init_da8c8_0 : decode cJxc12de_init_da8c8 0 = .ok (.aload_n 0, 1) := by decide +kernel
theorem dJxc12de_init_da8c8_1 : decode cJxc12de_init_da8c8 1 = .ok (.invokespecial 1, 3) := by decide +kernel
theorem dJxc12de_init_da8c8_4 : decode cJxc12de_init_da8c8 4 = .ok (.aload_n 0, 1) := by decide +kernel
theorem dJxc12de_init_da8c8_5 : decode cJxc12de_init_da8c8 5 = .ok (.iconst 0, 1) := by decide +kernel
theorem dJxc12de_init_da8c8_6 : decode cJxc12de_init_da8c8 6 = .ok (.putfield 7, 3) := by decide +kernel
theorem dJxc12de_init_da8c8_9 : decode cJxc12de_init_da8c8 9 = .ok (.return_, 1) := by decide +kernel
theorem dJx4a65c_init_da8c8_0 : decode cJx4a65c_init_da8c8 0 = .ok (.aload_n 0, 1) := by decide +kernel
theorem dJx4a65c_init_da8c8_1 : decode cJx4a65c_init_da8c8 1 = .ok (.invokespecial 1, 3) := by decide +kernel
theorem dJx4a65c_init_da8c8_4 : decode cJx4a65c_init_da8c8 4 = .ok (.aload_n 0, 1) := by decide +kernel
theorem dJx4a65c_init_da8c8_5 : decode cJx4a65c_init_da8c8 5 = .ok (.getstatic 39, 3) := by decide +kernel
theorem dJx4a65c_init_da8c8_8 : decode cJx4a65c_init_da8c8 8 = .ok (.putfield 9, 3) := by decide +kernel
theorem dJx4a65c_init_da8c8_11 : decode cJx4a65c_init_da8c8 11 = .ok (.return_, 1) := by decide +kernel
theorem dJx4a65c_grow_92f84_0 : decode cJx4a65c_grow_92f84 0 = .ok (.aload_n 0, 1) := by decide +kernel
theorem dJx4a65c_grow_92f84_1 : decode cJx4a65c_grow_92f84 1 = .ok (.getfield 9, 3) := by decide +kernel
theorem dJx4a65c_grow_92f84_4 : decode cJx4a65c_grow_92f84 4 = .ok (.arraylength, 1) := by decide +kernel
theorem dJx4a65c_grow_92f84_5 : decode cJx4a65c_grow_92f84 5 = .ok (.istore_n 2, 1) := by decide +kernel
theorem dJx4a65c_grow_92f84_6 : decode cJx4a65c_grow_92f84 6 = .ok (.iload_n 2, 1) := by decide +kernel
theorem dJx4a65c_grow_92f84_7 : decode cJx4a65c_grow_92f84 7 = .ok (.ifCond .gt 13, 3) := by decide +kernel
theorem dJx4a65c_grow_92f84_10 : decode cJx4a65c_grow_92f84 10 = .ok (.aload_n 0, 1) := by decide +kernel
theorem dJx4a65c_grow_92f84_11 : decode cJx4a65c_grow_92f84 11 = .ok (.getfield 9, 3) := by decide +kernel
theorem dJx4a65c_grow_92f84_14 : decode cJx4a65c_grow_92f84 14 = .ok (.getstatic 39, 3) := by decide +kernel
theorem dJx4a65c_grow_92f84_17 : decode cJx4a65c_grow_92f84 17 = .ok (.if_acmp .eq 28, 3) := by decide +kernel
theorem dJx4a65c_grow_92f84_20 : decode cJx4a65c_grow_92f84 20 = .ok (.iload_n 2, 1) := by decide +kernel
theorem dJx4a65c_grow_92f84_21 : decode cJx4a65c_grow_92f84 21 = .ok (.iload_n 1, 1) := by decide +kernel
theorem dJx4a65c_grow_92f84_22 : decode cJx4a65c_grow_92f84 22 = .ok (.iload_n 2, 1) := by decide +kernel
theorem dJx4a65c_grow_92f84_23 : decode cJx4a65c_grow_92f84 23 = .ok (.isub, 1) := by decide +kernel
theorem dJx4a65c_grow_92f84_24 : decode cJx4a65c_grow_92f84 24 = .ok (.iload_n 2, 1) := by decide +kernel
theorem dJx4a65c_grow_92f84_25 : decode cJx4a65c_grow_92f84 25 = .ok (.iconst 1, 1) := by decide +kernel
theorem dJx4a65c_grow_92f84_26 : decode cJx4a65c_grow_92f84 26 = .ok (.ishr, 1) := by decide +kernel
theorem dJx4a65c_grow_92f84_27 : decode cJx4a65c_grow_92f84 27 = .ok (.invokestatic 73, 3) := by decide +kernel
theorem dJx4a65c_grow_92f84_30 : decode cJx4a65c_grow_92f84 30 = .ok (.istore_n 3, 1) := by decide +kernel
theorem dJx4a65c_grow_92f84_31 : decode cJx4a65c_grow_92f84 31 = .ok (.aload_n 0, 1) := by decide +kernel
theorem dJx4a65c_grow_92f84_32 : decode cJx4a65c_grow_92f84 32 = .ok (.aload_n 0, 1) := by decide +kernel
theorem dJx4a65c_grow_92f84_33 : decode cJx4a65c_grow_92f84 33 = .ok (.getfield 9, 3) := by decide +kernel
theorem dJx4a65c_grow_92f84_36 : decode cJx4a65c_grow_92f84 36 = .ok (.iload_n 3, 1) := by decide +kernel
theorem dJx4a65c_grow_92f84_37 : decode cJx4a65c_grow_92f84 37 = .ok (.invokestatic 66, 3) := by decide +kernel
theorem dJx4a65c_grow_92f84_40 : decode cJx4a65c_grow_92f84 40 = .ok (.dup_x1, 1) := by decide +kernel
theorem dJx4a65c_grow_92f84_41 : decode cJx4a65c_grow_92f84 41 = .ok (.putfield 9, 3) := by decide +kernel
theorem dJx4a65c_grow_92f84_44 : decode cJx4a65c_grow_92f84 44 = .ok (.areturn, 1) := by decide +kernel
theorem dJx4a65c_grow_92f84_45 : decode cJx4a65c_grow_92f84 45 = .ok (.aload_n 0, 1) := by decide +kernel
theorem dJx4a65c_grow_92f84_46 : decode cJx4a65c_grow_92f84 46 = .ok (.bipush 10, 2) := by decide +kernel
theorem dJx4a65c_grow_92f84_48 : decode cJx4a65c_grow_92f84 48 = .ok (.iload_n 1, 1) := by decide +kernel
theorem dJx4a65c_grow_92f84_49 : decode cJx4a65c_grow_92f84 49 = .ok (.invokestatic 79, 3) := by decide +kernel
theorem dJx4a65c_grow_92f84_52 : decode cJx4a65c_grow_92f84 52 = .ok (.anewarray 7, 3) := by decide +kernel
theorem dJx4a65c_grow_92f84_55 : decode cJx4a65c_grow_92f84 55 = .ok (.dup_x1, 1) := by decide +kernel
theorem dJx4a65c_grow_92f84_56 : decode cJx4a65c_grow_92f84 56 = .ok (.putfield 9, 3) := by decide +kernel
theorem dJx4a65c_grow_92f84_59 : decode cJx4a65c_grow_92f84 59 = .ok (.areturn, 1) := by decide +kernel
theorem dJx4a65c_grow_d5877_0 : decode cJx4a65c_grow_d5877 0 = .ok (.aload_n 0, 1) := by decide +kernel
theorem dJx4a65c_grow_d5877_1 : decode cJx4a65c_grow_d5877 1 = .ok (.aload_n 0, 1) := by decide +kernel
theorem dJx4a65c_grow_d5877_2 : decode cJx4a65c_grow_d5877 2 = .ok (.getfield 48, 3) := by decide +kernel
theorem dJx4a65c_grow_d5877_5 : decode cJx4a65c_grow_d5877 5 = .ok (.iconst 1, 1) := by decide +kernel
theorem dJx4a65c_grow_d5877_6 : decode cJx4a65c_grow_d5877 6 = .ok (.iadd, 1) := by decide +kernel
theorem dJx4a65c_grow_d5877_7 : decode cJx4a65c_grow_d5877 7 = .ok (.invokevirtual 69, 3) := by decide +kernel
theorem dJx4a65c_grow_d5877_10 : decode cJx4a65c_grow_d5877 10 = .ok (.areturn, 1) := by decide +kernel
theorem dJx4a65c_size_8abf5_0 : decode cJx4a65c_size_8abf5 0 = .ok (.aload_n 0, 1) := by decide +kernel
theorem dJx4a65c_size_8abf5_1 : decode cJx4a65c_size_8abf5 1 = .ok (.getfield 48, 3) := by decide +kernel
theorem dJx4a65c_size_8abf5_4 : decode cJx4a65c_size_8abf5 4 = .ok (.ireturn, 1) := by decide +kernel
theorem dJx4a65c_elementData_915e3_0 : decode cJx4a65c_elementData_915e3 0 = .ok (.aload_n 0, 1) := by decide +kernel
theorem dJx4a65c_elementData_915e3_1 : decode cJx4a65c_elementData_915e3 1 = .ok (.getfield 9, 3) := by decide +kernel
theorem dJx4a65c_elementData_915e3_4 : decode cJx4a65c_elementData_915e3 4 = .ok (.iload_n 1, 1) := by decide +kernel
theorem dJx4a65c_elementData_915e3_5 : decode cJx4a65c_elementData_915e3 5 = .ok (.aaload, 1) := by decide +kernel
theorem dJx4a65c_elementData_915e3_6 : decode cJx4a65c_elementData_915e3 6 = .ok (.areturn, 1) := by decide +kernel
theorem dJx4a65c_get_915e3_0 : decode cJx4a65c_get_915e3 0 = .ok (.iload_n 1, 1) := by decide +kernel
theorem dJx4a65c_get_915e3_1 : decode cJx4a65c_get_915e3 1 = .ok (.aload_n 0, 1) := by decide +kernel
theorem dJx4a65c_get_915e3_2 : decode cJx4a65c_get_915e3 2 = .ok (.getfield 48, 3) := by decide +kernel
theorem dJx4a65c_get_915e3_5 : decode cJx4a65c_get_915e3 5 = .ok (.invokestatic 118, 3) := by decide +kernel
theorem dJx4a65c_get_915e3_8 : decode cJx4a65c_get_915e3 8 = .ok (.pop, 1) := by decide +kernel
theorem dJx4a65c_get_915e3_9 : decode cJx4a65c_get_915e3 9 = .ok (.aload_n 0, 1) := by decide +kernel
theorem dJx4a65c_get_915e3_10 : decode cJx4a65c_get_915e3 10 = .ok (.iload_n 1, 1) := by decide +kernel
theorem dJx4a65c_get_915e3_11 : decode cJx4a65c_get_915e3 11 = .ok (.invokevirtual 123, 3) := by decide +kernel
theorem dJx4a65c_get_915e3_14 : decode cJx4a65c_get_915e3 14 = .ok (.areturn, 1) := by decide +kernel
theorem dJx4a65c_add_72be8_0 : decode cJx4a65c_add_72be8 0 = .ok (.iload_n 3, 1) := by decide +kernel
theorem dJx4a65c_add_72be8_1 : decode cJx4a65c_add_72be8 1 = .ok (.aload_n 2, 1) := by decide +kernel
theorem dJx4a65c_add_72be8_2 : decode cJx4a65c_add_72be8 2 = .ok (.arraylength, 1) := by decide +kernel
theorem dJx4a65c_add_72be8_3 : decode cJx4a65c_add_72be8 3 = .ok (.if_icmp .ne 8, 3) := by decide +kernel
theorem dJx4a65c_add_72be8_6 : decode cJx4a65c_add_72be8 6 = .ok (.aload_n 0, 1) := by decide +kernel
theorem dJx4a65c_add_72be8_7 : decode cJx4a65c_add_72be8 7 = .ok (.invokevirtual 129, 3) := by decide +kernel
theorem dJx4a65c_add_72be8_10 : decode cJx4a65c_add_72be8 10 = .ok (.astore_n 2, 1) := by decide +kernel
theorem dJx4a65c_add_72be8_11 : decode cJx4a65c_add_72be8 11 = .ok (.aload_n 2, 1) := by decide +kernel
theorem dJx4a65c_add_72be8_12 : decode cJx4a65c_add_72be8 12 = .ok (.iload_n 3, 1) := by decide +kernel
theorem dJx4a65c_add_72be8_13 : decode cJx4a65c_add_72be8 13 = .ok (.aload_n 1, 1) := by decide +kernel
theorem dJx4a65c_add_72be8_14 : decode cJx4a65c_add_72be8 14 = .ok (.aastore, 1) := by decide +kernel
theorem dJx4a65c_add_72be8_15 : decode cJx4a65c_add_72be8 15 = .ok (.aload_n 0, 1) := by decide +kernel
theorem dJx4a65c_add_72be8_16 : decode cJx4a65c_add_72be8 16 = .ok (.iload_n 3, 1) := by decide +kernel
theorem dJx4a65c_add_72be8_17 : decode cJx4a65c_add_72be8 17 = .ok (.iconst 1, 1) := by decide +kernel
theorem dJx4a65c_add_72be8_18 : decode cJx4a65c_add_72be8 18 = .ok (.iadd, 1) := by decide +kernel
theorem dJx4a65c_add_72be8_19 : decode cJx4a65c_add_72be8 19 = .ok (.putfield 48, 3) := by decide +kernel
theorem dJx4a65c_add_72be8_22 : decode cJx4a65c_add_72be8 22 = .ok (.return_, 1) := by decide +kernel
theorem dJx4a65c_add_9ea2d_0 : decode cJx4a65c_add_9ea2d 0 = .ok (.aload_n 0, 1) := by decide +kernel
theorem dJx4a65c_add_9ea2d_1 : decode cJx4a65c_add_9ea2d 1 = .ok (.dup, 1) := by decide +kernel
theorem dJx4a65c_add_9ea2d_2 : decode cJx4a65c_add_9ea2d 2 = .ok (.getfield 63, 3) := by decide +kernel
theorem dJx4a65c_add_9ea2d_5 : decode cJx4a65c_add_9ea2d 5 = .ok (.iconst 1, 1) := by decide +kernel
theorem dJx4a65c_add_9ea2d_6 : decode cJx4a65c_add_9ea2d 6 = .ok (.iadd, 1) := by decide +kernel
theorem dJx4a65c_add_9ea2d_7 : decode cJx4a65c_add_9ea2d 7 = .ok (.putfield 63, 3) := by decide +kernel
theorem dJx4a65c_add_9ea2d_10 : decode cJx4a65c_add_9ea2d 10 = .ok (.aload_n 0, 1) := by decide +kernel
theorem dJx4a65c_add_9ea2d_11 : decode cJx4a65c_add_9ea2d 11 = .ok (.aload_n 1, 1) := by decide +kernel
theorem dJx4a65c_add_9ea2d_12 : decode cJx4a65c_add_9ea2d 12 = .ok (.aload_n 0, 1) := by decide +kernel
theorem dJx4a65c_add_9ea2d_13 : decode cJx4a65c_add_9ea2d 13 = .ok (.getfield 9, 3) := by decide +kernel
theorem dJx4a65c_add_9ea2d_16 : decode cJx4a65c_add_9ea2d 16 = .ok (.aload_n 0, 1) := by decide +kernel
theorem dJx4a65c_add_9ea2d_17 : decode cJx4a65c_add_9ea2d 17 = .ok (.getfield 48, 3) := by decide +kernel
theorem dJx4a65c_add_9ea2d_20 : decode cJx4a65c_add_9ea2d 20 = .ok (.invokevirtual 131, 3) := by decide +kernel
theorem dJx4a65c_add_9ea2d_23 : decode cJx4a65c_add_9ea2d 23 = .ok (.iconst 1, 1) := by decide +kernel
theorem dJx4a65c_add_9ea2d_24 : decode cJx4a65c_add_9ea2d 24 = .ok (.ireturn, 1) := by decide +kernel
theorem dJ7_copyOf_1904c_0 : decode cJ7_copyOf_1904c 0 = .ok (.aload_n 0, 1) := by decide +kernel
theorem dJ7_copyOf_1904c_1 : decode cJ7_copyOf_1904c 1 = .ok (.iload_n 1, 1) := by decide +kernel
theorem dJ7_copyOf_1904c_2 : decode cJ7_copyOf_1904c 2 = .ok (.aload_n 0, 1) := by decide +kernel
theorem dJ7_copyOf_1904c_3 : decode cJ7_copyOf_1904c 3 = .ok (.invokevirtual 86, 3) := by decide +kernel
theorem dJ7_copyOf_1904c_6 : decode cJ7_copyOf_1904c 6 = .ok (.invokestatic 300, 3) := by decide +kernel
theorem dJ7_copyOf_1904c_9 : decode cJ7_copyOf_1904c 9 = .ok (.areturn, 1) := by decide +kernel
theorem dJ7_copyOf_6403c_0 : decode cJ7_copyOf_6403c 0 = .ok (.aload_n 2, 1) := by decide +kernel
theorem dJ7_copyOf_6403c_1 : decode cJ7_copyOf_6403c 1 = .ok (.ldc 110, 2) := by decide +kernel
theorem dJ7_copyOf_6403c_3 : decode cJ7_copyOf_6403c 3 = .ok (.if_acmp .ne 10, 3) := by decide +kernel
theorem dJ7_copyOf_6403c_6 : decode cJ7_copyOf_6403c 6 = .ok (.iload_n 1, 1) := by decide +kernel
theorem dJ7_copyOf_6403c_7 : decode cJ7_copyOf_6403c 7 = .ok (.anewarray 2, 3) := by decide +kernel
theorem dJ7_copyOf_6403c_10 : decode cJ7_copyOf_6403c 10 = .ok (.goto 14, 3) := by decide +kernel
theorem dJ7_copyOf_6403c_13 : decode cJ7_copyOf_6403c 13 = .ok (.aload_n 2, 1) := by decide +kernel
theorem dJ7_copyOf_6403c_14 : decode cJ7_copyOf_6403c 14 = .ok (.invokevirtual 90, 3) := by decide +kernel
theorem dJ7_copyOf_6403c_17 : decode cJ7_copyOf_6403c 17 = .ok (.iload_n 1, 1) := by decide +kernel
theorem dJ7_copyOf_6403c_18 : decode cJ7_copyOf_6403c 18 = .ok (.invokestatic 95, 3) := by decide +kernel
theorem dJ7_copyOf_6403c_21 : decode cJ7_copyOf_6403c 21 = .ok (.checkcast 110, 3) := by decide +kernel
theorem dJ7_copyOf_6403c_24 : decode cJ7_copyOf_6403c 24 = .ok (.astore_n 3, 1) := by decide +kernel
theorem dJ7_copyOf_6403c_25 : decode cJ7_copyOf_6403c 25 = .ok (.aload_n 0, 1) := by decide +kernel
theorem dJ7_copyOf_6403c_26 : decode cJ7_copyOf_6403c 26 = .ok (.iconst 0, 1) := by decide +kernel
theorem dJ7_copyOf_6403c_27 : decode cJ7_copyOf_6403c 27 = .ok (.aload_n 3, 1) := by decide +kernel
theorem dJ7_copyOf_6403c_28 : decode cJ7_copyOf_6403c 28 = .ok (.iconst 0, 1) := by decide +kernel
theorem dJ7_copyOf_6403c_29 : decode cJ7_copyOf_6403c 29 = .ok (.aload_n 0, 1) := by decide +kernel
theorem dJ7_copyOf_6403c_30 : decode cJ7_copyOf_6403c 30 = .ok (.arraylength, 1) := by decide +kernel
theorem dJ7_copyOf_6403c_31 : decode cJ7_copyOf_6403c 31 = .ok (.iload_n 1, 1) := by decide +kernel
theorem dJ7_copyOf_6403c_32 : decode cJ7_copyOf_6403c 32 = .ok (.invokestatic 304, 3) := by decide +kernel
theorem dJ7_copyOf_6403c_35 : decode cJ7_copyOf_6403c 35 = .ok (.invokestatic 150, 3) := by decide +kernel
theorem dJ7_copyOf_6403c_38 : decode cJ7_copyOf_6403c 38 = .ok (.aload_n 3, 1) := by decide +kernel
theorem dJ7_copyOf_6403c_39 : decode cJ7_copyOf_6403c 39 = .ok (.areturn, 1) := by decide +kernel
theorem dJ15_checkIndex_7cf53_0 : decode cJ15_checkIndex_7cf53 0 = .ok (.iload_n 0, 1) := by decide +kernel
theorem dJ15_checkIndex_7cf53_1 : decode cJ15_checkIndex_7cf53 1 = .ok (.iload_n 1, 1) := by decide +kernel
theorem dJ15_checkIndex_7cf53_2 : decode cJ15_checkIndex_7cf53 2 = .ok (.aconst_null, 1) := by decide +kernel
theorem dJ15_checkIndex_7cf53_3 : decode cJ15_checkIndex_7cf53 3 = .ok (.invokestatic 105, 3) := by decide +kernel
theorem dJ15_checkIndex_7cf53_6 : decode cJ15_checkIndex_7cf53 6 = .ok (.ireturn, 1) := by decide +kernel
theorem dJ8_newLength_cabcc_0 : decode cJ8_newLength_cabcc 0 = .ok (.iload_n 0, 1) := by decide +kernel
theorem dJ8_newLength_cabcc_1 : decode cJ8_newLength_cabcc 1 = .ok (.iload_n 1, 1) := by decide +kernel
theorem dJ8_newLength_cabcc_2 : decode cJ8_newLength_cabcc 2 = .ok (.iload_n 2, 1) := by decide +kernel
theorem dJ8_newLength_cabcc_3 : decode cJ8_newLength_cabcc 3 = .ok (.invokestatic 194, 3) := by decide +kernel
theorem dJ8_newLength_cabcc_6 : decode cJ8_newLength_cabcc 6 = .ok (.iadd, 1) := by decide +kernel
theorem dJ8_newLength_cabcc_7 : decode cJ8_newLength_cabcc 7 = .ok (.istore_n 3, 1) := by decide +kernel
theorem dJ8_newLength_cabcc_8 : decode cJ8_newLength_cabcc 8 = .ok (.iconst 0, 1) := by decide +kernel
theorem dJ8_newLength_cabcc_9 : decode cJ8_newLength_cabcc 9 = .ok (.iload_n 3, 1) := by decide +kernel
theorem dJ8_newLength_cabcc_10 : decode cJ8_newLength_cabcc 10 = .ok (.if_icmp .ge 11, 3) := by decide +kernel
theorem dJ8_newLength_cabcc_13 : decode cJ8_newLength_cabcc 13 = .ok (.iload_n 3, 1) := by decide +kernel
theorem dJ8_newLength_cabcc_14 : decode cJ8_newLength_cabcc 14 = .ok (.ldc 200, 2) := by decide +kernel
theorem dJ8_newLength_cabcc_16 : decode cJ8_newLength_cabcc 16 = .ok (.if_icmp .gt 5, 3) := by decide +kernel
theorem dJ8_newLength_cabcc_19 : decode cJ8_newLength_cabcc 19 = .ok (.iload_n 3, 1) := by decide +kernel
theorem dJ8_newLength_cabcc_20 : decode cJ8_newLength_cabcc 20 = .ok (.ireturn, 1) := by decide +kernel
theorem dJ8_newLength_cabcc_21 : decode cJ8_newLength_cabcc 21 = .ok (.iload_n 0, 1) := by decide +kernel
theorem dJ8_newLength_cabcc_22 : decode cJ8_newLength_cabcc 22 = .ok (.iload_n 1, 1) := by decide +kernel
theorem dJ8_newLength_cabcc_23 : decode cJ8_newLength_cabcc 23 = .ok (.invokestatic 201, 3) := by decide +kernel
theorem dJ8_newLength_cabcc_26 : decode cJ8_newLength_cabcc 26 = .ok (.ireturn, 1) := by decide +kernel
theorem dJ8_hugeLength_7cf53_0 : decode cJ8_hugeLength_7cf53 0 = .ok (.iload_n 0, 1) := by decide +kernel
theorem dJ8_hugeLength_7cf53_1 : decode cJ8_hugeLength_7cf53 1 = .ok (.iload_n 1, 1) := by decide +kernel
theorem dJ8_hugeLength_7cf53_2 : decode cJ8_hugeLength_7cf53 2 = .ok (.iadd, 1) := by decide +kernel
theorem dJ8_hugeLength_7cf53_3 : decode cJ8_hugeLength_7cf53 3 = .ok (.istore_n 2, 1) := by decide +kernel
theorem dJ8_hugeLength_7cf53_4 : decode cJ8_hugeLength_7cf53 4 = .ok (.iload_n 2, 1) := by decide +kernel
theorem dJ8_hugeLength_7cf53_5 : decode cJ8_hugeLength_7cf53 5 = .ok (.ifCond .ge 44, 3) := by decide +kernel
theorem dJ8_hugeLength_7cf53_8 : decode cJ8_hugeLength_7cf53 8 = .ok (.new 204, 3) := by decide +kernel
theorem dJ8_hugeLength_7cf53_11 : decode cJ8_hugeLength_7cf53 11 = .ok (.dup, 1) := by decide +kernel
theorem dJ8_hugeLength_7cf53_12 : decode cJ8_hugeLength_7cf53 12 = .ok (.new 89, 3) := by decide +kernel
theorem dJ8_hugeLength_7cf53_15 : decode cJ8_hugeLength_7cf53 15 = .ok (.dup, 1) := by decide +kernel
theorem dJ8_hugeLength_7cf53_16 : decode cJ8_hugeLength_7cf53 16 = .ok (.invokespecial 91, 3) := by decide +kernel
theorem dJ8_hugeLength_7cf53_19 : decode cJ8_hugeLength_7cf53 19 = .ok (.ldc 206, 2) := by decide +kernel
theorem dJ8_hugeLength_7cf53_21 : decode cJ8_hugeLength_7cf53 21 = .ok (.invokevirtual 94, 3) := by decide +kernel
theorem dJ8_hugeLength_7cf53_24 : decode cJ8_hugeLength_7cf53 24 = .ok (.iload_n 0, 1) := by decide +kernel
theorem dJ8_hugeLength_7cf53_25 : decode cJ8_hugeLength_7cf53 25 = .ok (.invokevirtual 98, 3) := by decide +kernel
theorem dJ8_hugeLength_7cf53_28 : decode cJ8_hugeLength_7cf53 28 = .ok (.ldc 208, 2) := by decide +kernel
theorem dJ8_hugeLength_7cf53_30 : decode cJ8_hugeLength_7cf53 30 = .ok (.invokevirtual 94, 3) := by decide +kernel
theorem dJ8_hugeLength_7cf53_33 : decode cJ8_hugeLength_7cf53 33 = .ok (.iload_n 1, 1) := by decide +kernel
theorem dJ8_hugeLength_7cf53_34 : decode cJ8_hugeLength_7cf53 34 = .ok (.invokevirtual 98, 3) := by decide +kernel
theorem dJ8_hugeLength_7cf53_37 : decode cJ8_hugeLength_7cf53 37 = .ok (.ldc 210, 2) := by decide +kernel
theorem dJ8_hugeLength_7cf53_39 : decode cJ8_hugeLength_7cf53 39 = .ok (.invokevirtual 94, 3) := by decide +kernel
theorem dJ8_hugeLength_7cf53_42 : decode cJ8_hugeLength_7cf53 42 = .ok (.invokevirtual 101, 3) := by decide +kernel
theorem dJ8_hugeLength_7cf53_45 : decode cJ8_hugeLength_7cf53 45 = .ok (.invokespecial 212, 3) := by decide +kernel
theorem dJ8_hugeLength_7cf53_48 : decode cJ8_hugeLength_7cf53 48 = .ok (.athrow, 1) := by decide +kernel
theorem dJ8_hugeLength_7cf53_49 : decode cJ8_hugeLength_7cf53 49 = .ok (.iload_n 2, 1) := by decide +kernel
theorem dJ8_hugeLength_7cf53_50 : decode cJ8_hugeLength_7cf53 50 = .ok (.ldc 200, 2) := by decide +kernel
theorem dJ8_hugeLength_7cf53_52 : decode cJ8_hugeLength_7cf53 52 = .ok (.if_icmp .gt 6, 3) := by decide +kernel
theorem dJ8_hugeLength_7cf53_55 : decode cJ8_hugeLength_7cf53 55 = .ok (.ldc 200, 2) := by decide +kernel
theorem dJ8_hugeLength_7cf53_57 : decode cJ8_hugeLength_7cf53 57 = .ok (.ireturn, 1) := by decide +kernel
theorem dJ8_hugeLength_7cf53_58 : decode cJ8_hugeLength_7cf53 58 = .ok (.iload_n 2, 1) := by decide +kernel
theorem dJ8_hugeLength_7cf53_59 : decode cJ8_hugeLength_7cf53 59 = .ok (.ireturn, 1) := by decide +kernel
theorem dJ3_checkIndex_8e157_0 : decode cJ3_checkIndex_8e157 0 = .ok (.iload_n 0, 1) := by decide +kernel
theorem dJ3_checkIndex_8e157_1 : decode cJ3_checkIndex_8e157 1 = .ok (.ifCond .lt 8, 3) := by decide +kernel
theorem dJ3_checkIndex_8e157_4 : decode cJ3_checkIndex_8e157 4 = .ok (.iload_n 0, 1) := by decide +kernel
theorem dJ3_checkIndex_8e157_5 : decode cJ3_checkIndex_8e157 5 = .ok (.iload_n 1, 1) := by decide +kernel
theorem dJ3_checkIndex_8e157_6 : decode cJ3_checkIndex_8e157 6 = .ok (.if_icmp .lt 10, 3) := by decide +kernel
theorem dJ3_checkIndex_8e157_9 : decode cJ3_checkIndex_8e157 9 = .ok (.aload_n 2, 1) := by decide +kernel
theorem dJ3_checkIndex_8e157_10 : decode cJ3_checkIndex_8e157 10 = .ok (.iload_n 0, 1) := by decide +kernel
theorem dJ3_checkIndex_8e157_11 : decode cJ3_checkIndex_8e157 11 = .ok (.iload_n 1, 1) := by decide +kernel
theorem dJ3_checkIndex_8e157_12 : decode cJ3_checkIndex_8e157 12 = .ok (.invokestatic 95, 3) := by decide +kernel
theorem dJ3_checkIndex_8e157_15 : decode cJ3_checkIndex_8e157 15 = .ok (.athrow, 1) := by decide +kernel
theorem dJ3_checkIndex_8e157_16 : decode cJ3_checkIndex_8e157 16 = .ok (.iload_n 0, 1) := by decide +kernel
theorem dJ3_checkIndex_8e157_17 : decode cJ3_checkIndex_8e157 17 = .ok (.ireturn, 1) := by decide +kernel
theorem dL_herb_0 : decode cL_herb 0 = .ok (.aload_n 3, 1) := by decide +kernel
theorem dL_herb_1 : decode cL_herb 1 = .ok (.iconst 0, 1) := by decide +kernel
theorem dL_herb_2 : decode cL_herb 2 = .ok (.aload_n 0, 1) := by decide +kernel
theorem dL_herb_3 : decode cL_herb 3 = .ok (.iload_n 1, 1) := by decide +kernel
theorem dL_herb_4 : decode cL_herb 4 = .ok (.iload_n 2, 1) := by decide +kernel
theorem dL_herb_5 : decode cL_herb 5 = .ok (.invokevirtual 7, 3) := by decide +kernel
theorem dL_herb_8 : decode cL_herb 8 = .ok (.i2l, 1) := by decide +kernel
theorem dL_herb_9 : decode cL_herb 9 = .ok (.lastore, 1) := by decide +kernel
theorem dL_herb_10 : decode cL_herb 10 = .ok (.goto 11, 3) := by decide +kernel
theorem dL_herb_13 : decode cL_herb 13 = .ok (.astore 4, 2) := by decide +kernel
theorem dL_herb_15 : decode cL_herb 15 = .ok (.iconst 1, 1) := by decide +kernel
theorem dL_herb_16 : decode cL_herb 16 = .ok (.ireturn, 1) := by decide +kernel
theorem dL_herb_17 : decode cL_herb 17 = .ok (.astore 4, 2) := by decide +kernel
theorem dL_herb_19 : decode cL_herb 19 = .ok (.iconst 2, 1) := by decide +kernel
theorem dL_herb_20 : decode cL_herb 20 = .ok (.ireturn, 1) := by decide +kernel
theorem dL_herb_21 : decode cL_herb 21 = .ok (.iconst 0, 1) := by decide +kernel
theorem dL_herb_22 : decode cL_herb 22 = .ok (.ireturn, 1) := by decide +kernel
theorem dL_hang_0 : decode cL_hang 0 = .ok (.aload 5, 2) := by decide +kernel
theorem dL_hang_2 : decode cL_hang 2 = .ok (.iconst 0, 1) := by decide +kernel
theorem dL_hang_3 : decode cL_hang 3 = .ok (.aload_n 0, 1) := by decide +kernel
theorem dL_hang_4 : decode cL_hang 4 = .ok (.iload_n 1, 1) := by decide +kernel
theorem dL_hang_5 : decode cL_hang 5 = .ok (.iload_n 2, 1) := by decide +kernel
theorem dL_hang_6 : decode cL_hang 6 = .ok (.iload_n 3, 1) := by decide +kernel
theorem dL_hang_7 : decode cL_hang 7 = .ok (.iload 4, 2) := by decide +kernel
theorem dL_hang_9 : decode cL_hang 9 = .ok (.invokevirtual 17, 3) := by decide +kernel
theorem dL_hang_12 : decode cL_hang 12 = .ok (.i2l, 1) := by decide +kernel
theorem dL_hang_13 : decode cL_hang 13 = .ok (.lastore, 1) := by decide +kernel
theorem dL_hang_14 : decode cL_hang 14 = .ok (.goto 15, 3) := by decide +kernel
theorem dL_hang_17 : decode cL_hang 17 = .ok (.astore 6, 2) := by decide +kernel
theorem dL_hang_19 : decode cL_hang 19 = .ok (.iconst 1, 1) := by decide +kernel
theorem dL_hang_20 : decode cL_hang 20 = .ok (.ireturn, 1) := by decide +kernel
theorem dL_hang_21 : decode cL_hang 21 = .ok (.astore 6, 2) := by decide +kernel
theorem dL_hang_23 : decode cL_hang 23 = .ok (.iconst 2, 1) := by decide +kernel
theorem dL_hang_24 : decode cL_hang 24 = .ok (.ireturn, 1) := by decide +kernel
theorem dL_hang_25 : decode cL_hang 25 = .ok (.astore 6, 2) := by decide +kernel
theorem dL_hang_27 : decode cL_hang 27 = .ok (.iconst 3, 1) := by decide +kernel
theorem dL_hang_28 : decode cL_hang 28 = .ok (.ireturn, 1) := by decide +kernel
theorem dL_hang_29 : decode cL_hang 29 = .ok (.iconst 0, 1) := by decide +kernel
theorem dL_hang_30 : decode cL_hang 30 = .ok (.ireturn, 1) := by decide +kernel
theorem dL_take_0 : decode cL_take 0 = .ok (.aload_n 3, 1) := by decide +kernel
theorem dL_take_1 : decode cL_take 1 = .ok (.iconst 0, 1) := by decide +kernel
theorem dL_take_2 : decode cL_take 2 = .ok (.aload_n 0, 1) := by decide +kernel
theorem dL_take_3 : decode cL_take 3 = .ok (.iload_n 1, 1) := by decide +kernel
theorem dL_take_4 : decode cL_take 4 = .ok (.iload_n 2, 1) := by decide +kernel
theorem dL_take_5 : decode cL_take 5 = .ok (.invokevirtual 23, 3) := by decide +kernel
theorem dL_take_8 : decode cL_take 8 = .ok (.i2l, 1) := by decide +kernel
theorem dL_take_9 : decode cL_take 9 = .ok (.lastore, 1) := by decide +kernel
theorem dL_take_10 : decode cL_take 10 = .ok (.goto 11, 3) := by decide +kernel
theorem dL_take_13 : decode cL_take 13 = .ok (.astore 4, 2) := by decide +kernel
theorem dL_take_15 : decode cL_take 15 = .ok (.iconst 1, 1) := by decide +kernel
theorem dL_take_16 : decode cL_take 16 = .ok (.ireturn, 1) := by decide +kernel
theorem dL_take_17 : decode cL_take 17 = .ok (.astore 4, 2) := by decide +kernel
theorem dL_take_19 : decode cL_take 19 = .ok (.iconst 2, 1) := by decide +kernel
theorem dL_take_20 : decode cL_take 20 = .ok (.ireturn, 1) := by decide +kernel
theorem dL_take_21 : decode cL_take 21 = .ok (.iconst 0, 1) := by decide +kernel
theorem dL_take_22 : decode cL_take 22 = .ok (.ireturn, 1) := by decide +kernel
theorem dL_move_0 : decode cL_move 0 = .ok (.aload 5, 2) := by decide +kernel
theorem dL_move_2 : decode cL_move 2 = .ok (.iconst 0, 1) := by decide +kernel
theorem dL_move_3 : decode cL_move 3 = .ok (.aload_n 0, 1) := by decide +kernel
theorem dL_move_4 : decode cL_move 4 = .ok (.iload_n 1, 1) := by decide +kernel
theorem dL_move_5 : decode cL_move 5 = .ok (.iload_n 2, 1) := by decide +kernel
theorem dL_move_6 : decode cL_move 6 = .ok (.iload_n 3, 1) := by decide +kernel
theorem dL_move_7 : decode cL_move 7 = .ok (.iload 4, 2) := by decide +kernel
theorem dL_move_9 : decode cL_move 9 = .ok (.invokevirtual 26, 3) := by decide +kernel
theorem dL_move_12 : decode cL_move 12 = .ok (.i2l, 1) := by decide +kernel
theorem dL_move_13 : decode cL_move 13 = .ok (.lastore, 1) := by decide +kernel
theorem dL_move_14 : decode cL_move 14 = .ok (.goto 11, 3) := by decide +kernel
theorem dL_move_17 : decode cL_move 17 = .ok (.astore 6, 2) := by decide +kernel
theorem dL_move_19 : decode cL_move 19 = .ok (.iconst 1, 1) := by decide +kernel
theorem dL_move_20 : decode cL_move 20 = .ok (.ireturn, 1) := by decide +kernel
theorem dL_move_21 : decode cL_move 21 = .ok (.astore 6, 2) := by decide +kernel
theorem dL_move_23 : decode cL_move 23 = .ok (.iconst 2, 1) := by decide +kernel
theorem dL_move_24 : decode cL_move 24 = .ok (.ireturn, 1) := by decide +kernel
theorem dL_move_25 : decode cL_move 25 = .ok (.iconst 0, 1) := by decide +kernel
theorem dL_move_26 : decode cL_move 26 = .ok (.ireturn, 1) := by decide +kernel
theorem dL_turn_0 : decode cL_turn 0 = .ok (.aload_n 2, 1) := by decide +kernel
theorem dL_turn_1 : decode cL_turn 1 = .ok (.iconst 0, 1) := by decide +kernel
theorem dL_turn_2 : decode cL_turn 2 = .ok (.aload_n 0, 1) := by decide +kernel
theorem dL_turn_3 : decode cL_turn 3 = .ok (.iload_n 1, 1) := by decide +kernel
theorem dL_turn_4 : decode cL_turn 4 = .ok (.invokevirtual 29, 3) := by decide +kernel
theorem dL_turn_7 : decode cL_turn 7 = .ok (.i2l, 1) := by decide +kernel
theorem dL_turn_8 : decode cL_turn 8 = .ok (.lastore, 1) := by decide +kernel
theorem dL_turn_9 : decode cL_turn 9 = .ok (.goto 6, 3) := by decide +kernel
theorem dL_turn_12 : decode cL_turn 12 = .ok (.astore_n 3, 1) := by decide +kernel
theorem dL_turn_13 : decode cL_turn 13 = .ok (.iconst 1, 1) := by decide +kernel
theorem dL_turn_14 : decode cL_turn 14 = .ok (.ireturn, 1) := by decide +kernel
theorem dL_turn_15 : decode cL_turn 15 = .ok (.iconst 0, 1) := by decide +kernel
theorem dL_turn_16 : decode cL_turn 16 = .ok (.ireturn, 1) := by decide +kernel
theorem dL_setWindow_0 : decode cL_setWindow 0 = .ok (.aload_n 2, 1) := by decide +kernel
theorem dL_setWindow_1 : decode cL_setWindow 1 = .ok (.iconst 0, 1) := by decide +kernel
theorem dL_setWindow_2 : decode cL_setWindow 2 = .ok (.aload_n 0, 1) := by decide +kernel
theorem dL_setWindow_3 : decode cL_setWindow 3 = .ok (.iload_n 1, 1) := by decide +kernel
theorem dL_setWindow_4 : decode cL_setWindow 4 = .ok (.invokevirtual 33, 3) := by decide +kernel
theorem dL_setWindow_7 : decode cL_setWindow 7 = .ok (.i2l, 1) := by decide +kernel
theorem dL_setWindow_8 : decode cL_setWindow 8 = .ok (.lastore, 1) := by decide +kernel
theorem dL_setWindow_9 : decode cL_setWindow 9 = .ok (.goto 6, 3) := by decide +kernel
theorem dL_setWindow_12 : decode cL_setWindow 12 = .ok (.astore_n 3, 1) := by decide +kernel
theorem dL_setWindow_13 : decode cL_setWindow 13 = .ok (.iconst 1, 1) := by decide +kernel
theorem dL_setWindow_14 : decode cL_setWindow 14 = .ok (.ireturn, 1) := by decide +kernel
theorem dL_setWindow_15 : decode cL_setWindow 15 = .ok (.iconst 0, 1) := by decide +kernel
theorem dL_setWindow_16 : decode cL_setWindow 16 = .ok (.ireturn, 1) := by decide +kernel
theorem dL_order_0 : decode cL_order 0 = .ok (.aload 4, 2) := by decide +kernel
theorem dL_order_2 : decode cL_order 2 = .ok (.iconst 0, 1) := by decide +kernel
theorem dL_order_3 : decode cL_order 3 = .ok (.aload_n 0, 1) := by decide +kernel
theorem dL_order_4 : decode cL_order 4 = .ok (.iload_n 1, 1) := by decide +kernel
theorem dL_order_5 : decode cL_order 5 = .ok (.iload_n 2, 1) := by decide +kernel
theorem dL_order_6 : decode cL_order 6 = .ok (.iload_n 3, 1) := by decide +kernel
theorem dL_order_7 : decode cL_order 7 = .ok (.invokevirtual 36, 3) := by decide +kernel
theorem dL_order_10 : decode cL_order 10 = .ok (.i2l, 1) := by decide +kernel
theorem dL_order_11 : decode cL_order 11 = .ok (.lastore, 1) := by decide +kernel
theorem dL_order_12 : decode cL_order 12 = .ok (.goto 15, 3) := by decide +kernel
theorem dL_order_15 : decode cL_order 15 = .ok (.astore 5, 2) := by decide +kernel
theorem dL_order_17 : decode cL_order 17 = .ok (.iconst 1, 1) := by decide +kernel
theorem dL_order_18 : decode cL_order 18 = .ok (.ireturn, 1) := by decide +kernel
theorem dL_order_19 : decode cL_order 19 = .ok (.astore 5, 2) := by decide +kernel
theorem dL_order_21 : decode cL_order 21 = .ok (.iconst 2, 1) := by decide +kernel
theorem dL_order_22 : decode cL_order 22 = .ok (.ireturn, 1) := by decide +kernel
theorem dL_order_23 : decode cL_order 23 = .ok (.astore 5, 2) := by decide +kernel
theorem dL_order_25 : decode cL_order 25 = .ok (.iconst 3, 1) := by decide +kernel
theorem dL_order_26 : decode cL_order 26 = .ok (.ireturn, 1) := by decide +kernel
theorem dL_order_27 : decode cL_order 27 = .ok (.iconst 0, 1) := by decide +kernel
theorem dL_order_28 : decode cL_order 28 = .ok (.ireturn, 1) := by decide +kernel
theorem dL_pass_0 : decode cL_pass 0 = .ok (.aload_n 3, 1) := by decide +kernel
theorem dL_pass_1 : decode cL_pass 1 = .ok (.iconst 0, 1) := by decide +kernel
theorem dL_pass_2 : decode cL_pass 2 = .ok (.aload_n 0, 1) := by decide +kernel
theorem dL_pass_3 : decode cL_pass 3 = .ok (.iload_n 1, 1) := by decide +kernel
theorem dL_pass_4 : decode cL_pass 4 = .ok (.iload_n 2, 1) := by decide +kernel
theorem dL_pass_5 : decode cL_pass 5 = .ok (.invokevirtual 40, 3) := by decide +kernel
theorem dL_pass_8 : decode cL_pass 8 = .ok (.i2l, 1) := by decide +kernel
theorem dL_pass_9 : decode cL_pass 9 = .ok (.lastore, 1) := by decide +kernel
theorem dL_pass_10 : decode cL_pass 10 = .ok (.goto 7, 3) := by decide +kernel
theorem dL_pass_13 : decode cL_pass 13 = .ok (.astore 4, 2) := by decide +kernel
theorem dL_pass_15 : decode cL_pass 15 = .ok (.iconst 1, 1) := by decide +kernel
theorem dL_pass_16 : decode cL_pass 16 = .ok (.ireturn, 1) := by decide +kernel
theorem dL_pass_17 : decode cL_pass 17 = .ok (.iconst 0, 1) := by decide +kernel
theorem dL_pass_18 : decode cL_pass 18 = .ok (.ireturn, 1) := by decide +kernel
theorem dL_told_0 : decode cL_told 0 = .ok (.aload 4, 2) := by decide +kernel
theorem dL_told_2 : decode cL_told 2 = .ok (.iconst 0, 1) := by decide +kernel
theorem dL_told_3 : decode cL_told 3 = .ok (.aload_n 0, 1) := by decide +kernel
theorem dL_told_4 : decode cL_told 4 = .ok (.iload_n 1, 1) := by decide +kernel
theorem dL_told_5 : decode cL_told 5 = .ok (.iload_n 2, 1) := by decide +kernel
theorem dL_told_6 : decode cL_told 6 = .ok (.iload_n 3, 1) := by decide +kernel
theorem dL_told_7 : decode cL_told 7 = .ok (.invokevirtual 43, 3) := by decide +kernel
theorem dL_told_10 : decode cL_told 10 = .ok (.i2l, 1) := by decide +kernel
theorem dL_told_11 : decode cL_told 11 = .ok (.lastore, 1) := by decide +kernel
theorem dL_told_12 : decode cL_told 12 = .ok (.goto 7, 3) := by decide +kernel
theorem dL_told_15 : decode cL_told 15 = .ok (.astore 5, 2) := by decide +kernel
theorem dL_told_17 : decode cL_told 17 = .ok (.iconst 1, 1) := by decide +kernel
theorem dL_told_18 : decode cL_told 18 = .ok (.ireturn, 1) := by decide +kernel
theorem dL_told_19 : decode cL_told 19 = .ok (.iconst 0, 1) := by decide +kernel
theorem dL_told_20 : decode cL_told 20 = .ok (.ireturn, 1) := by decide +kernel
theorem dL_about_0 : decode cL_about 0 = .ok (.aload_n 3, 1) := by decide +kernel
theorem dL_about_1 : decode cL_about 1 = .ok (.iconst 0, 1) := by decide +kernel
theorem dL_about_2 : decode cL_about 2 = .ok (.aload_n 0, 1) := by decide +kernel
theorem dL_about_3 : decode cL_about 3 = .ok (.iload_n 1, 1) := by decide +kernel
theorem dL_about_4 : decode cL_about 4 = .ok (.iload_n 2, 1) := by decide +kernel
theorem dL_about_5 : decode cL_about 5 = .ok (.invokevirtual 46, 3) := by decide +kernel
theorem dL_about_8 : decode cL_about 8 = .ok (.i2l, 1) := by decide +kernel
theorem dL_about_9 : decode cL_about 9 = .ok (.lastore, 1) := by decide +kernel
theorem dL_about_10 : decode cL_about 10 = .ok (.goto 7, 3) := by decide +kernel
theorem dL_about_13 : decode cL_about 13 = .ok (.astore 4, 2) := by decide +kernel
theorem dL_about_15 : decode cL_about 15 = .ok (.iconst 1, 1) := by decide +kernel
theorem dL_about_16 : decode cL_about 16 = .ok (.ireturn, 1) := by decide +kernel
theorem dL_about_17 : decode cL_about 17 = .ok (.iconst 0, 1) := by decide +kernel
theorem dL_about_18 : decode cL_about 18 = .ok (.ireturn, 1) := by decide +kernel
theorem dL_asked_0 : decode cL_asked 0 = .ok (.aload_n 3, 1) := by decide +kernel
theorem dL_asked_1 : decode cL_asked 1 = .ok (.iconst 0, 1) := by decide +kernel
theorem dL_asked_2 : decode cL_asked 2 = .ok (.aload_n 0, 1) := by decide +kernel
theorem dL_asked_3 : decode cL_asked 3 = .ok (.iload_n 1, 1) := by decide +kernel
theorem dL_asked_4 : decode cL_asked 4 = .ok (.iload_n 2, 1) := by decide +kernel
theorem dL_asked_5 : decode cL_asked 5 = .ok (.invokevirtual 49, 3) := by decide +kernel
theorem dL_asked_8 : decode cL_asked 8 = .ok (.i2l, 1) := by decide +kernel
theorem dL_asked_9 : decode cL_asked 9 = .ok (.lastore, 1) := by decide +kernel
theorem dL_asked_10 : decode cL_asked 10 = .ok (.goto 7, 3) := by decide +kernel
theorem dL_asked_13 : decode cL_asked 13 = .ok (.astore 4, 2) := by decide +kernel
theorem dL_asked_15 : decode cL_asked 15 = .ok (.iconst 1, 1) := by decide +kernel
theorem dL_asked_16 : decode cL_asked 16 = .ok (.ireturn, 1) := by decide +kernel
theorem dL_asked_17 : decode cL_asked 17 = .ok (.iconst 0, 1) := by decide +kernel
theorem dL_asked_18 : decode cL_asked 18 = .ok (.ireturn, 1) := by decide +kernel
theorem dL_count_0 : decode cL_count 0 = .ok (.aload_n 2, 1) := by decide +kernel
theorem dL_count_1 : decode cL_count 1 = .ok (.iconst 0, 1) := by decide +kernel
theorem dL_count_2 : decode cL_count 2 = .ok (.aload_n 0, 1) := by decide +kernel
theorem dL_count_3 : decode cL_count 3 = .ok (.iload_n 1, 1) := by decide +kernel
theorem dL_count_4 : decode cL_count 4 = .ok (.invokevirtual 52, 3) := by decide +kernel
theorem dL_count_7 : decode cL_count 7 = .ok (.i2l, 1) := by decide +kernel
theorem dL_count_8 : decode cL_count 8 = .ok (.lastore, 1) := by decide +kernel
theorem dL_count_9 : decode cL_count 9 = .ok (.goto 6, 3) := by decide +kernel
theorem dL_count_12 : decode cL_count 12 = .ok (.astore_n 3, 1) := by decide +kernel
theorem dL_count_13 : decode cL_count 13 = .ok (.iconst 1, 1) := by decide +kernel
theorem dL_count_14 : decode cL_count 14 = .ok (.ireturn, 1) := by decide +kernel
theorem dL_count_15 : decode cL_count 15 = .ok (.iconst 0, 1) := by decide +kernel
theorem dL_count_16 : decode cL_count 16 = .ok (.ireturn, 1) := by decide +kernel
theorem dL_until_0 : decode cL_until 0 = .ok (.aload 5, 2) := by decide +kernel
theorem dL_until_2 : decode cL_until 2 = .ok (.iconst 0, 1) := by decide +kernel
theorem dL_until_3 : decode cL_until 3 = .ok (.aload_n 0, 1) := by decide +kernel
theorem dL_until_4 : decode cL_until 4 = .ok (.iload_n 1, 1) := by decide +kernel
theorem dL_until_5 : decode cL_until 5 = .ok (.iload_n 2, 1) := by decide +kernel
theorem dL_until_6 : decode cL_until 6 = .ok (.iload_n 3, 1) := by decide +kernel
theorem dL_until_7 : decode cL_until 7 = .ok (.iload 4, 2) := by decide +kernel
theorem dL_until_9 : decode cL_until 9 = .ok (.invokevirtual 55, 3) := by decide +kernel
theorem dL_until_12 : decode cL_until 12 = .ok (.i2l, 1) := by decide +kernel
theorem dL_until_13 : decode cL_until 13 = .ok (.lastore, 1) := by decide +kernel
theorem dL_until_14 : decode cL_until 14 = .ok (.goto 11, 3) := by decide +kernel
theorem dL_until_17 : decode cL_until 17 = .ok (.astore 6, 2) := by decide +kernel
theorem dL_until_19 : decode cL_until 19 = .ok (.iconst 1, 1) := by decide +kernel
theorem dL_until_20 : decode cL_until 20 = .ok (.ireturn, 1) := by decide +kernel
theorem dL_until_21 : decode cL_until 21 = .ok (.astore 6, 2) := by decide +kernel
theorem dL_until_23 : decode cL_until 23 = .ok (.iconst 2, 1) := by decide +kernel
theorem dL_until_24 : decode cL_until 24 = .ok (.ireturn, 1) := by decide +kernel
theorem dL_until_25 : decode cL_until 25 = .ok (.iconst 0, 1) := by decide +kernel
theorem dL_until_26 : decode cL_until 26 = .ok (.ireturn, 1) := by decide +kernel
theorem dL_foresee_0 : decode cL_foresee 0 = .ok (.aload 4, 2) := by decide +kernel
theorem dL_foresee_2 : decode cL_foresee 2 = .ok (.iconst 0, 1) := by decide +kernel
theorem dL_foresee_3 : decode cL_foresee 3 = .ok (.aload_n 0, 1) := by decide +kernel
theorem dL_foresee_4 : decode cL_foresee 4 = .ok (.iload_n 1, 1) := by decide +kernel
theorem dL_foresee_5 : decode cL_foresee 5 = .ok (.iload_n 2, 1) := by decide +kernel
theorem dL_foresee_6 : decode cL_foresee 6 = .ok (.iload_n 3, 1) := by decide +kernel
theorem dL_foresee_7 : decode cL_foresee 7 = .ok (.invokevirtual 58, 3) := by decide +kernel
theorem dL_foresee_10 : decode cL_foresee 10 = .ok (.i2l, 1) := by decide +kernel
theorem dL_foresee_11 : decode cL_foresee 11 = .ok (.lastore, 1) := by decide +kernel
theorem dL_foresee_12 : decode cL_foresee 12 = .ok (.goto 11, 3) := by decide +kernel
theorem dL_foresee_15 : decode cL_foresee 15 = .ok (.astore 5, 2) := by decide +kernel
theorem dL_foresee_17 : decode cL_foresee 17 = .ok (.iconst 1, 1) := by decide +kernel
theorem dL_foresee_18 : decode cL_foresee 18 = .ok (.ireturn, 1) := by decide +kernel
theorem dL_foresee_19 : decode cL_foresee 19 = .ok (.astore 5, 2) := by decide +kernel
theorem dL_foresee_21 : decode cL_foresee 21 = .ok (.iconst 2, 1) := by decide +kernel
theorem dL_foresee_22 : decode cL_foresee 22 = .ok (.ireturn, 1) := by decide +kernel
theorem dL_foresee_23 : decode cL_foresee 23 = .ok (.iconst 0, 1) := by decide +kernel
theorem dL_foresee_24 : decode cL_foresee 24 = .ok (.ireturn, 1) := by decide +kernel
theorem dL_advise_0 : decode cL_advise 0 = .ok (.aload_n 3, 1) := by decide +kernel
theorem dL_advise_1 : decode cL_advise 1 = .ok (.iconst 0, 1) := by decide +kernel
theorem dL_advise_2 : decode cL_advise 2 = .ok (.aload_n 0, 1) := by decide +kernel
theorem dL_advise_3 : decode cL_advise 3 = .ok (.iload_n 1, 1) := by decide +kernel
theorem dL_advise_4 : decode cL_advise 4 = .ok (.iload_n 2, 1) := by decide +kernel
theorem dL_advise_5 : decode cL_advise 5 = .ok (.invokevirtual 61, 3) := by decide +kernel
theorem dL_advise_8 : decode cL_advise 8 = .ok (.i2l, 1) := by decide +kernel
theorem dL_advise_9 : decode cL_advise 9 = .ok (.lastore, 1) := by decide +kernel
theorem dL_advise_10 : decode cL_advise 10 = .ok (.goto 7, 3) := by decide +kernel
theorem dL_advise_13 : decode cL_advise 13 = .ok (.astore 4, 2) := by decide +kernel
theorem dL_advise_15 : decode cL_advise 15 = .ok (.iconst 1, 1) := by decide +kernel
theorem dL_advise_16 : decode cL_advise 16 = .ok (.ireturn, 1) := by decide +kernel
theorem dL_advise_17 : decode cL_advise 17 = .ok (.iconst 0, 1) := by decide +kernel
theorem dL_advise_18 : decode cL_advise 18 = .ok (.ireturn, 1) := by decide +kernel
theorem dL_law_0 : decode cL_law 0 = .ok (.new 8, 3) := by decide +kernel
theorem dL_law_3 : decode cL_law 3 = .ok (.dup, 1) := by decide +kernel
theorem dL_law_4 : decode cL_law 4 = .ok (.invokespecial 64, 3) := by decide +kernel
theorem dL_law_7 : decode cL_law 7 = .ok (.astore_n 1, 1) := by decide +kernel
theorem dL_law_8 : decode cL_law 8 = .ok (.new 65, 3) := by decide +kernel
theorem dL_law_11 : decode cL_law 11 = .ok (.dup, 1) := by decide +kernel
theorem dL_law_12 : decode cL_law 12 = .ok (.invokespecial 67, 3) := by decide +kernel
theorem dL_law_15 : decode cL_law 15 = .ok (.astore_n 2, 1) := by decide +kernel
theorem dL_law_16 : decode cL_law 16 = .ok (.iconst 1, 1) := by decide +kernel
theorem dL_law_17 : decode cL_law 17 = .ok (.newarray .long, 2) := by decide +kernel
theorem dL_law_19 : decode cL_law 19 = .ok (.astore_n 3, 1) := by decide +kernel
theorem dL_law_20 : decode cL_law 20 = .ok (.iconst 0, 1) := by decide +kernel
theorem dL_law_21 : decode cL_law 21 = .ok (.istore 4, 2) := by decide +kernel
theorem dL_law_23 : decode cL_law 23 = .ok (.iload 4, 2) := by decide +kernel
theorem dL_law_25 : decode cL_law 25 = .ok (.aload_n 0, 1) := by decide +kernel
theorem dL_law_26 : decode cL_law 26 = .ok (.arraylength, 1) := by decide +kernel
theorem dL_law_27 : decode cL_law 27 = .ok (.iconst 5, 1) := by decide +kernel
theorem dL_law_28 : decode cL_law 28 = .ok (.isub, 1) := by decide +kernel
theorem dL_law_29 : decode cL_law 29 = .ok (.if_icmp .gt 1261, 3) := by decide +kernel
theorem dL_law_32 : decode cL_law 32 = .ok (.aload_n 0, 1) := by decide +kernel
theorem dL_law_33 : decode cL_law 33 = .ok (.iload 4, 2) := by decide +kernel
theorem dL_law_35 : decode cL_law 35 = .ok (.iaload, 1) := by decide +kernel
theorem dL_law_36 : decode cL_law 36 = .ok (.bipush 31, 2) := by decide +kernel
theorem dL_law_38 : decode cL_law 38 = .ok (.iand, 1) := by decide +kernel
theorem dL_law_39 : decode cL_law 39 = .ok (.tableswitch 1245 0 17 #[85, 153, 245, 313, 405, 461, 517, 597, 610, 678, 758, 826, 894, 950, 1042, 1122, 1190, 1231], 85) := by decide +kernel
theorem dL_law_124 : decode cL_law 124 = .ok (.aload_n 1, 1) := by decide +kernel
theorem dL_law_125 : decode cL_law 125 = .ok (.aload_n 0, 1) := by decide +kernel
theorem dL_law_126 : decode cL_law 126 = .ok (.iload 4, 2) := by decide +kernel
theorem dL_law_128 : decode cL_law 128 = .ok (.iconst 1, 1) := by decide +kernel
theorem dL_law_129 : decode cL_law 129 = .ok (.iadd, 1) := by decide +kernel
theorem dL_law_130 : decode cL_law 130 = .ok (.iaload, 1) := by decide +kernel
theorem dL_law_131 : decode cL_law 131 = .ok (.aload_n 0, 1) := by decide +kernel
theorem dL_law_132 : decode cL_law 132 = .ok (.iload 4, 2) := by decide +kernel
theorem dL_law_134 : decode cL_law 134 = .ok (.iconst 2, 1) := by decide +kernel
theorem dL_law_135 : decode cL_law 135 = .ok (.iadd, 1) := by decide +kernel
theorem dL_law_136 : decode cL_law 136 = .ok (.iaload, 1) := by decide +kernel
theorem dL_law_137 : decode cL_law 137 = .ok (.aload_n 3, 1) := by decide +kernel
theorem dL_law_138 : decode cL_law 138 = .ok (.invokestatic 68, 3) := by decide +kernel
theorem dL_law_141 : decode cL_law 141 = .ok (.istore 5, 2) := by decide +kernel
theorem dL_law_143 : decode cL_law 143 = .ok (.aload_n 2, 1) := by decide +kernel
theorem dL_law_144 : decode cL_law 144 = .ok (.aload_n 0, 1) := by decide +kernel
theorem dL_law_145 : decode cL_law 145 = .ok (.iload 4, 2) := by decide +kernel
theorem dL_law_147 : decode cL_law 147 = .ok (.iconst 1, 1) := by decide +kernel
theorem dL_law_148 : decode cL_law 148 = .ok (.iadd, 1) := by decide +kernel
theorem dL_law_149 : decode cL_law 149 = .ok (.iaload, 1) := by decide +kernel
theorem dL_law_150 : decode cL_law 150 = .ok (.aload_n 0, 1) := by decide +kernel
theorem dL_law_151 : decode cL_law 151 = .ok (.iload 4, 2) := by decide +kernel
theorem dL_law_153 : decode cL_law 153 = .ok (.iconst 2, 1) := by decide +kernel
theorem dL_law_154 : decode cL_law 154 = .ok (.iadd, 1) := by decide +kernel
theorem dL_law_155 : decode cL_law 155 = .ok (.iaload, 1) := by decide +kernel
theorem dL_law_156 : decode cL_law 156 = .ok (.invokevirtual 73, 3) := by decide +kernel
theorem dL_law_159 : decode cL_law 159 = .ok (.istore 6, 2) := by decide +kernel
theorem dL_law_161 : decode cL_law 161 = .ok (.aload_n 2, 1) := by decide +kernel
theorem dL_law_162 : decode cL_law 162 = .ok (.invokevirtual 74, 3) := by decide +kernel
theorem dL_law_165 : decode cL_law 165 = .ok (.iload 5, 2) := by decide +kernel
theorem dL_law_167 : decode cL_law 167 = .ok (.if_icmp .eq 5, 3) := by decide +kernel
theorem dL_law_170 : decode cL_law 170 = .ok (.iconst 0, 1) := by decide +kernel
theorem dL_law_171 : decode cL_law 171 = .ok (.ireturn, 1) := by decide +kernel
theorem dL_law_172 : decode cL_law 172 = .ok (.iload 5, 2) := by decide +kernel
theorem dL_law_174 : decode cL_law 174 = .ok (.ifCond .ne 15, 3) := by decide +kernel
theorem dL_law_177 : decode cL_law 177 = .ok (.aload_n 3, 1) := by decide +kernel
theorem dL_law_178 : decode cL_law 178 = .ok (.iconst 0, 1) := by decide +kernel
theorem dL_law_179 : decode cL_law 179 = .ok (.laload, 1) := by decide +kernel
theorem dL_law_180 : decode cL_law 180 = .ok (.iload 6, 2) := by decide +kernel
theorem dL_law_182 : decode cL_law 182 = .ok (.i2l, 1) := by decide +kernel
theorem dL_law_183 : decode cL_law 183 = .ok (.lcmp, 1) := by decide +kernel
theorem dL_law_184 : decode cL_law 184 = .ok (.ifCond .eq 5, 3) := by decide +kernel
theorem dL_law_187 : decode cL_law 187 = .ok (.iconst 0, 1) := by decide +kernel
theorem dL_law_188 : decode cL_law 188 = .ok (.ireturn, 1) := by decide +kernel
theorem dL_law_189 : decode cL_law 189 = .ok (.goto 1095, 3) := by decide +kernel
theorem dL_law_192 : decode cL_law 192 = .ok (.aload_n 1, 1) := by decide +kernel
theorem dL_law_193 : decode cL_law 193 = .ok (.aload_n 0, 1) := by decide +kernel
theorem dL_law_194 : decode cL_law 194 = .ok (.iload 4, 2) := by decide +kernel
theorem dL_law_196 : decode cL_law 196 = .ok (.iconst 1, 1) := by decide +kernel
theorem dL_law_197 : decode cL_law 197 = .ok (.iadd, 1) := by decide +kernel
theorem dL_law_198 : decode cL_law 198 = .ok (.iaload, 1) := by decide +kernel
theorem dL_law_199 : decode cL_law 199 = .ok (.aload_n 0, 1) := by decide +kernel
theorem dL_law_200 : decode cL_law 200 = .ok (.iload 4, 2) := by decide +kernel
theorem dL_law_202 : decode cL_law 202 = .ok (.iconst 2, 1) := by decide +kernel
theorem dL_law_203 : decode cL_law 203 = .ok (.iadd, 1) := by decide +kernel
theorem dL_law_204 : decode cL_law 204 = .ok (.iaload, 1) := by decide +kernel
theorem dL_law_205 : decode cL_law 205 = .ok (.aload_n 0, 1) := by decide +kernel
theorem dL_law_206 : decode cL_law 206 = .ok (.iload 4, 2) := by decide +kernel
theorem dL_law_208 : decode cL_law 208 = .ok (.iconst 3, 1) := by decide +kernel
theorem dL_law_209 : decode cL_law 209 = .ok (.iadd, 1) := by decide +kernel
theorem dL_law_210 : decode cL_law 210 = .ok (.iaload, 1) := by decide +kernel
theorem dL_law_211 : decode cL_law 211 = .ok (.aload_n 0, 1) := by decide +kernel
theorem dL_law_212 : decode cL_law 212 = .ok (.iload 4, 2) := by decide +kernel
theorem dL_law_214 : decode cL_law 214 = .ok (.iconst 4, 1) := by decide +kernel
theorem dL_law_215 : decode cL_law 215 = .ok (.iadd, 1) := by decide +kernel
theorem dL_law_216 : decode cL_law 216 = .ok (.iaload, 1) := by decide +kernel
theorem dL_law_217 : decode cL_law 217 = .ok (.aload_n 3, 1) := by decide +kernel
theorem dL_law_218 : decode cL_law 218 = .ok (.invokestatic 78, 3) := by decide +kernel
theorem dL_law_221 : decode cL_law 221 = .ok (.istore 5, 2) := by decide +kernel
theorem dL_law_223 : decode cL_law 223 = .ok (.aload_n 2, 1) := by decide +kernel
theorem dL_law_224 : decode cL_law 224 = .ok (.aload_n 0, 1) := by decide +kernel
theorem dL_law_225 : decode cL_law 225 = .ok (.iload 4, 2) := by decide +kernel
theorem dL_law_227 : decode cL_law 227 = .ok (.iconst 1, 1) := by decide +kernel
theorem dL_law_228 : decode cL_law 228 = .ok (.iadd, 1) := by decide +kernel
theorem dL_law_229 : decode cL_law 229 = .ok (.iaload, 1) := by decide +kernel
theorem dL_law_230 : decode cL_law 230 = .ok (.aload_n 0, 1) := by decide +kernel
theorem dL_law_231 : decode cL_law 231 = .ok (.iload 4, 2) := by decide +kernel
theorem dL_law_233 : decode cL_law 233 = .ok (.iconst 2, 1) := by decide +kernel
theorem dL_law_234 : decode cL_law 234 = .ok (.iadd, 1) := by decide +kernel
theorem dL_law_235 : decode cL_law 235 = .ok (.iaload, 1) := by decide +kernel
theorem dL_law_236 : decode cL_law 236 = .ok (.aload_n 0, 1) := by decide +kernel
theorem dL_law_237 : decode cL_law 237 = .ok (.iload 4, 2) := by decide +kernel
theorem dL_law_239 : decode cL_law 239 = .ok (.iconst 3, 1) := by decide +kernel
theorem dL_law_240 : decode cL_law 240 = .ok (.iadd, 1) := by decide +kernel
theorem dL_law_241 : decode cL_law 241 = .ok (.iaload, 1) := by decide +kernel
theorem dL_law_242 : decode cL_law 242 = .ok (.aload_n 0, 1) := by decide +kernel
theorem dL_law_243 : decode cL_law 243 = .ok (.iload 4, 2) := by decide +kernel
theorem dL_law_245 : decode cL_law 245 = .ok (.iconst 4, 1) := by decide +kernel
theorem dL_law_246 : decode cL_law 246 = .ok (.iadd, 1) := by decide +kernel
theorem dL_law_247 : decode cL_law 247 = .ok (.iaload, 1) := by decide +kernel
theorem dL_law_248 : decode cL_law 248 = .ok (.invokevirtual 81, 3) := by decide +kernel
theorem dL_law_251 : decode cL_law 251 = .ok (.istore 6, 2) := by decide +kernel
theorem dL_law_253 : decode cL_law 253 = .ok (.aload_n 2, 1) := by decide +kernel
theorem dL_law_254 : decode cL_law 254 = .ok (.invokevirtual 74, 3) := by decide +kernel
theorem dL_law_257 : decode cL_law 257 = .ok (.iload 5, 2) := by decide +kernel
theorem dL_law_259 : decode cL_law 259 = .ok (.if_icmp .eq 5, 3) := by decide +kernel
theorem dL_law_262 : decode cL_law 262 = .ok (.iconst 0, 1) := by decide +kernel
theorem dL_law_263 : decode cL_law 263 = .ok (.ireturn, 1) := by decide +kernel
theorem dL_law_264 : decode cL_law 264 = .ok (.iload 5, 2) := by decide +kernel
theorem dL_law_266 : decode cL_law 266 = .ok (.ifCond .ne 15, 3) := by decide +kernel
theorem dL_law_269 : decode cL_law 269 = .ok (.aload_n 3, 1) := by decide +kernel
theorem dL_law_270 : decode cL_law 270 = .ok (.iconst 0, 1) := by decide +kernel
theorem dL_law_271 : decode cL_law 271 = .ok (.laload, 1) := by decide +kernel
theorem dL_law_272 : decode cL_law 272 = .ok (.iload 6, 2) := by decide +kernel
theorem dL_law_274 : decode cL_law 274 = .ok (.i2l, 1) := by decide +kernel
theorem dL_law_275 : decode cL_law 275 = .ok (.lcmp, 1) := by decide +kernel
theorem dL_law_276 : decode cL_law 276 = .ok (.ifCond .eq 5, 3) := by decide +kernel
theorem dL_law_279 : decode cL_law 279 = .ok (.iconst 0, 1) := by decide +kernel
theorem dL_law_280 : decode cL_law 280 = .ok (.ireturn, 1) := by decide +kernel
theorem dL_law_281 : decode cL_law 281 = .ok (.goto 1003, 3) := by decide +kernel
theorem dL_law_284 : decode cL_law 284 = .ok (.aload_n 1, 1) := by decide +kernel
theorem dL_law_285 : decode cL_law 285 = .ok (.aload_n 0, 1) := by decide +kernel
theorem dL_law_286 : decode cL_law 286 = .ok (.iload 4, 2) := by decide +kernel
theorem dL_law_288 : decode cL_law 288 = .ok (.iconst 1, 1) := by decide +kernel
theorem dL_law_289 : decode cL_law 289 = .ok (.iadd, 1) := by decide +kernel
theorem dL_law_290 : decode cL_law 290 = .ok (.iaload, 1) := by decide +kernel
theorem dL_law_291 : decode cL_law 291 = .ok (.aload_n 0, 1) := by decide +kernel
theorem dL_law_292 : decode cL_law 292 = .ok (.iload 4, 2) := by decide +kernel
theorem dL_law_294 : decode cL_law 294 = .ok (.iconst 2, 1) := by decide +kernel
theorem dL_law_295 : decode cL_law 295 = .ok (.iadd, 1) := by decide +kernel
theorem dL_law_296 : decode cL_law 296 = .ok (.iaload, 1) := by decide +kernel
theorem dL_law_297 : decode cL_law 297 = .ok (.aload_n 3, 1) := by decide +kernel
theorem dL_law_298 : decode cL_law 298 = .ok (.invokestatic 82, 3) := by decide +kernel
theorem dL_law_301 : decode cL_law 301 = .ok (.istore 5, 2) := by decide +kernel
theorem dL_law_303 : decode cL_law 303 = .ok (.aload_n 2, 1) := by decide +kernel
theorem dL_law_304 : decode cL_law 304 = .ok (.aload_n 0, 1) := by decide +kernel
theorem dL_law_305 : decode cL_law 305 = .ok (.iload 4, 2) := by decide +kernel
theorem dL_law_307 : decode cL_law 307 = .ok (.iconst 1, 1) := by decide +kernel
theorem dL_law_308 : decode cL_law 308 = .ok (.iadd, 1) := by decide +kernel
theorem dL_law_309 : decode cL_law 309 = .ok (.iaload, 1) := by decide +kernel
theorem dL_law_310 : decode cL_law 310 = .ok (.aload_n 0, 1) := by decide +kernel
theorem dL_law_311 : decode cL_law 311 = .ok (.iload 4, 2) := by decide +kernel
theorem dL_law_313 : decode cL_law 313 = .ok (.iconst 2, 1) := by decide +kernel
theorem dL_law_314 : decode cL_law 314 = .ok (.iadd, 1) := by decide +kernel
theorem dL_law_315 : decode cL_law 315 = .ok (.iaload, 1) := by decide +kernel
theorem dL_law_316 : decode cL_law 316 = .ok (.invokevirtual 84, 3) := by decide +kernel
theorem dL_law_319 : decode cL_law 319 = .ok (.istore 6, 2) := by decide +kernel
theorem dL_law_321 : decode cL_law 321 = .ok (.aload_n 2, 1) := by decide +kernel
theorem dL_law_322 : decode cL_law 322 = .ok (.invokevirtual 74, 3) := by decide +kernel
theorem dL_law_325 : decode cL_law 325 = .ok (.iload 5, 2) := by decide +kernel
theorem dL_law_327 : decode cL_law 327 = .ok (.if_icmp .eq 5, 3) := by decide +kernel
theorem dL_law_330 : decode cL_law 330 = .ok (.iconst 0, 1) := by decide +kernel
theorem dL_law_331 : decode cL_law 331 = .ok (.ireturn, 1) := by decide +kernel
theorem dL_law_332 : decode cL_law 332 = .ok (.iload 5, 2) := by decide +kernel
theorem dL_law_334 : decode cL_law 334 = .ok (.ifCond .ne 15, 3) := by decide +kernel
theorem dL_law_337 : decode cL_law 337 = .ok (.aload_n 3, 1) := by decide +kernel
theorem dL_law_338 : decode cL_law 338 = .ok (.iconst 0, 1) := by decide +kernel
theorem dL_law_339 : decode cL_law 339 = .ok (.laload, 1) := by decide +kernel
theorem dL_law_340 : decode cL_law 340 = .ok (.iload 6, 2) := by decide +kernel
theorem dL_law_342 : decode cL_law 342 = .ok (.i2l, 1) := by decide +kernel
theorem dL_law_343 : decode cL_law 343 = .ok (.lcmp, 1) := by decide +kernel
theorem dL_law_344 : decode cL_law 344 = .ok (.ifCond .eq 5, 3) := by decide +kernel
theorem dL_law_347 : decode cL_law 347 = .ok (.iconst 0, 1) := by decide +kernel
theorem dL_law_348 : decode cL_law 348 = .ok (.ireturn, 1) := by decide +kernel
theorem dL_law_349 : decode cL_law 349 = .ok (.goto 935, 3) := by decide +kernel
theorem dL_law_352 : decode cL_law 352 = .ok (.aload_n 1, 1) := by decide +kernel
theorem dL_law_353 : decode cL_law 353 = .ok (.aload_n 0, 1) := by decide +kernel
theorem dL_law_354 : decode cL_law 354 = .ok (.iload 4, 2) := by decide +kernel
theorem dL_law_356 : decode cL_law 356 = .ok (.iconst 1, 1) := by decide +kernel
theorem dL_law_357 : decode cL_law 357 = .ok (.iadd, 1) := by decide +kernel
theorem dL_law_358 : decode cL_law 358 = .ok (.iaload, 1) := by decide +kernel
theorem dL_law_359 : decode cL_law 359 = .ok (.aload_n 0, 1) := by decide +kernel
theorem dL_law_360 : decode cL_law 360 = .ok (.iload 4, 2) := by decide +kernel
theorem dL_law_362 : decode cL_law 362 = .ok (.iconst 2, 1) := by decide +kernel
theorem dL_law_363 : decode cL_law 363 = .ok (.iadd, 1) := by decide +kernel
theorem dL_law_364 : decode cL_law 364 = .ok (.iaload, 1) := by decide +kernel
theorem dL_law_365 : decode cL_law 365 = .ok (.aload_n 0, 1) := by decide +kernel
theorem dL_law_366 : decode cL_law 366 = .ok (.iload 4, 2) := by decide +kernel
theorem dL_law_368 : decode cL_law 368 = .ok (.iconst 3, 1) := by decide +kernel
theorem dL_law_369 : decode cL_law 369 = .ok (.iadd, 1) := by decide +kernel
theorem dL_law_370 : decode cL_law 370 = .ok (.iaload, 1) := by decide +kernel
theorem dL_law_371 : decode cL_law 371 = .ok (.aload_n 0, 1) := by decide +kernel
theorem dL_law_372 : decode cL_law 372 = .ok (.iload 4, 2) := by decide +kernel
theorem dL_law_374 : decode cL_law 374 = .ok (.iconst 4, 1) := by decide +kernel
theorem dL_law_375 : decode cL_law 375 = .ok (.iadd, 1) := by decide +kernel
theorem dL_law_376 : decode cL_law 376 = .ok (.iaload, 1) := by decide +kernel
theorem dL_law_377 : decode cL_law 377 = .ok (.aload_n 3, 1) := by decide +kernel
theorem dL_law_378 : decode cL_law 378 = .ok (.invokestatic 85, 3) := by decide +kernel
theorem dL_law_381 : decode cL_law 381 = .ok (.istore 5, 2) := by decide +kernel
theorem dL_law_383 : decode cL_law 383 = .ok (.aload_n 2, 1) := by decide +kernel
theorem dL_law_384 : decode cL_law 384 = .ok (.aload_n 0, 1) := by decide +kernel
theorem dL_law_385 : decode cL_law 385 = .ok (.iload 4, 2) := by decide +kernel
theorem dL_law_387 : decode cL_law 387 = .ok (.iconst 1, 1) := by decide +kernel
theorem dL_law_388 : decode cL_law 388 = .ok (.iadd, 1) := by decide +kernel
theorem dL_law_389 : decode cL_law 389 = .ok (.iaload, 1) := by decide +kernel
theorem dL_law_390 : decode cL_law 390 = .ok (.aload_n 0, 1) := by decide +kernel
theorem dL_law_391 : decode cL_law 391 = .ok (.iload 4, 2) := by decide +kernel
theorem dL_law_393 : decode cL_law 393 = .ok (.iconst 2, 1) := by decide +kernel
theorem dL_law_394 : decode cL_law 394 = .ok (.iadd, 1) := by decide +kernel
theorem dL_law_395 : decode cL_law 395 = .ok (.iaload, 1) := by decide +kernel
theorem dL_law_396 : decode cL_law 396 = .ok (.aload_n 0, 1) := by decide +kernel
theorem dL_law_397 : decode cL_law 397 = .ok (.iload 4, 2) := by decide +kernel
theorem dL_law_399 : decode cL_law 399 = .ok (.iconst 3, 1) := by decide +kernel
theorem dL_law_400 : decode cL_law 400 = .ok (.iadd, 1) := by decide +kernel
theorem dL_law_401 : decode cL_law 401 = .ok (.iaload, 1) := by decide +kernel
theorem dL_law_402 : decode cL_law 402 = .ok (.aload_n 0, 1) := by decide +kernel
theorem dL_law_403 : decode cL_law 403 = .ok (.iload 4, 2) := by decide +kernel
theorem dL_law_405 : decode cL_law 405 = .ok (.iconst 4, 1) := by decide +kernel
theorem dL_law_406 : decode cL_law 406 = .ok (.iadd, 1) := by decide +kernel
theorem dL_law_407 : decode cL_law 407 = .ok (.iaload, 1) := by decide +kernel
theorem dL_law_408 : decode cL_law 408 = .ok (.invokevirtual 87, 3) := by decide +kernel
theorem dL_law_411 : decode cL_law 411 = .ok (.istore 6, 2) := by decide +kernel
theorem dL_law_413 : decode cL_law 413 = .ok (.aload_n 2, 1) := by decide +kernel
theorem dL_law_414 : decode cL_law 414 = .ok (.invokevirtual 74, 3) := by decide +kernel
theorem dL_law_417 : decode cL_law 417 = .ok (.iload 5, 2) := by decide +kernel
theorem dL_law_419 : decode cL_law 419 = .ok (.if_icmp .eq 5, 3) := by decide +kernel
theorem dL_law_422 : decode cL_law 422 = .ok (.iconst 0, 1) := by decide +kernel
theorem dL_law_423 : decode cL_law 423 = .ok (.ireturn, 1) := by decide +kernel
theorem dL_law_424 : decode cL_law 424 = .ok (.iload 5, 2) := by decide +kernel
theorem dL_law_426 : decode cL_law 426 = .ok (.ifCond .ne 15, 3) := by decide +kernel
theorem dL_law_429 : decode cL_law 429 = .ok (.aload_n 3, 1) := by decide +kernel
theorem dL_law_430 : decode cL_law 430 = .ok (.iconst 0, 1) := by decide +kernel
theorem dL_law_431 : decode cL_law 431 = .ok (.laload, 1) := by decide +kernel
theorem dL_law_432 : decode cL_law 432 = .ok (.iload 6, 2) := by decide +kernel
theorem dL_law_434 : decode cL_law 434 = .ok (.i2l, 1) := by decide +kernel
theorem dL_law_435 : decode cL_law 435 = .ok (.lcmp, 1) := by decide +kernel
theorem dL_law_436 : decode cL_law 436 = .ok (.ifCond .eq 5, 3) := by decide +kernel
theorem dL_law_439 : decode cL_law 439 = .ok (.iconst 0, 1) := by decide +kernel
theorem dL_law_440 : decode cL_law 440 = .ok (.ireturn, 1) := by decide +kernel
theorem dL_law_441 : decode cL_law 441 = .ok (.goto 843, 3) := by decide +kernel
theorem dL_law_444 : decode cL_law 444 = .ok (.aload_n 1, 1) := by decide +kernel
theorem dL_law_445 : decode cL_law 445 = .ok (.aload_n 0, 1) := by decide +kernel
theorem dL_law_446 : decode cL_law 446 = .ok (.iload 4, 2) := by decide +kernel
theorem dL_law_448 : decode cL_law 448 = .ok (.iconst 1, 1) := by decide +kernel
theorem dL_law_449 : decode cL_law 449 = .ok (.iadd, 1) := by decide +kernel
theorem dL_law_450 : decode cL_law 450 = .ok (.iaload, 1) := by decide +kernel
theorem dL_law_451 : decode cL_law 451 = .ok (.aload_n 3, 1) := by decide +kernel
theorem dL_law_452 : decode cL_law 452 = .ok (.invokestatic 88, 3) := by decide +kernel
theorem dL_law_455 : decode cL_law 455 = .ok (.istore 5, 2) := by decide +kernel
theorem dL_law_457 : decode cL_law 457 = .ok (.aload_n 2, 1) := by decide +kernel
theorem dL_law_458 : decode cL_law 458 = .ok (.aload_n 0, 1) := by decide +kernel
theorem dL_law_459 : decode cL_law 459 = .ok (.iload 4, 2) := by decide +kernel
theorem dL_law_461 : decode cL_law 461 = .ok (.iconst 1, 1) := by decide +kernel
theorem dL_law_462 : decode cL_law 462 = .ok (.iadd, 1) := by decide +kernel
theorem dL_law_463 : decode cL_law 463 = .ok (.iaload, 1) := by decide +kernel
theorem dL_law_464 : decode cL_law 464 = .ok (.invokevirtual 91, 3) := by decide +kernel
theorem dL_law_467 : decode cL_law 467 = .ok (.istore 6, 2) := by decide +kernel
theorem dL_law_469 : decode cL_law 469 = .ok (.aload_n 2, 1) := by decide +kernel
theorem dL_law_470 : decode cL_law 470 = .ok (.invokevirtual 74, 3) := by decide +kernel
theorem dL_law_473 : decode cL_law 473 = .ok (.iload 5, 2) := by decide +kernel
theorem dL_law_475 : decode cL_law 475 = .ok (.if_icmp .eq 5, 3) := by decide +kernel
theorem dL_law_478 : decode cL_law 478 = .ok (.iconst 0, 1) := by decide +kernel
theorem dL_law_479 : decode cL_law 479 = .ok (.ireturn, 1) := by decide +kernel
theorem dL_law_480 : decode cL_law 480 = .ok (.iload 5, 2) := by decide +kernel
theorem dL_law_482 : decode cL_law 482 = .ok (.ifCond .ne 15, 3) := by decide +kernel
theorem dL_law_485 : decode cL_law 485 = .ok (.aload_n 3, 1) := by decide +kernel
theorem dL_law_486 : decode cL_law 486 = .ok (.iconst 0, 1) := by decide +kernel
theorem dL_law_487 : decode cL_law 487 = .ok (.laload, 1) := by decide +kernel
theorem dL_law_488 : decode cL_law 488 = .ok (.iload 6, 2) := by decide +kernel
theorem dL_law_490 : decode cL_law 490 = .ok (.i2l, 1) := by decide +kernel
theorem dL_law_491 : decode cL_law 491 = .ok (.lcmp, 1) := by decide +kernel
theorem dL_law_492 : decode cL_law 492 = .ok (.ifCond .eq 5, 3) := by decide +kernel
theorem dL_law_495 : decode cL_law 495 = .ok (.iconst 0, 1) := by decide +kernel
theorem dL_law_496 : decode cL_law 496 = .ok (.ireturn, 1) := by decide +kernel
theorem dL_law_497 : decode cL_law 497 = .ok (.goto 787, 3) := by decide +kernel
theorem dL_law_500 : decode cL_law 500 = .ok (.aload_n 1, 1) := by decide +kernel
theorem dL_law_501 : decode cL_law 501 = .ok (.aload_n 0, 1) := by decide +kernel
theorem dL_law_502 : decode cL_law 502 = .ok (.iload 4, 2) := by decide +kernel
theorem dL_law_504 : decode cL_law 504 = .ok (.iconst 1, 1) := by decide +kernel
theorem dL_law_505 : decode cL_law 505 = .ok (.iadd, 1) := by decide +kernel
theorem dL_law_506 : decode cL_law 506 = .ok (.iaload, 1) := by decide +kernel
theorem dL_law_507 : decode cL_law 507 = .ok (.aload_n 3, 1) := by decide +kernel
theorem dL_law_508 : decode cL_law 508 = .ok (.invokestatic 92, 3) := by decide +kernel
theorem dL_law_511 : decode cL_law 511 = .ok (.istore 5, 2) := by decide +kernel
theorem dL_law_513 : decode cL_law 513 = .ok (.aload_n 2, 1) := by decide +kernel
theorem dL_law_514 : decode cL_law 514 = .ok (.aload_n 0, 1) := by decide +kernel
theorem dL_law_515 : decode cL_law 515 = .ok (.iload 4, 2) := by decide +kernel
theorem dL_law_517 : decode cL_law 517 = .ok (.iconst 1, 1) := by decide +kernel
theorem dL_law_518 : decode cL_law 518 = .ok (.iadd, 1) := by decide +kernel
theorem dL_law_519 : decode cL_law 519 = .ok (.iaload, 1) := by decide +kernel
theorem dL_law_520 : decode cL_law 520 = .ok (.invokevirtual 94, 3) := by decide +kernel
theorem dL_law_523 : decode cL_law 523 = .ok (.istore 6, 2) := by decide +kernel
theorem dL_law_525 : decode cL_law 525 = .ok (.aload_n 2, 1) := by decide +kernel
theorem dL_law_526 : decode cL_law 526 = .ok (.invokevirtual 74, 3) := by decide +kernel
theorem dL_law_529 : decode cL_law 529 = .ok (.iload 5, 2) := by decide +kernel
theorem dL_law_531 : decode cL_law 531 = .ok (.if_icmp .eq 5, 3) := by decide +kernel
theorem dL_law_534 : decode cL_law 534 = .ok (.iconst 0, 1) := by decide +kernel
theorem dL_law_535 : decode cL_law 535 = .ok (.ireturn, 1) := by decide +kernel
theorem dL_law_536 : decode cL_law 536 = .ok (.iload 5, 2) := by decide +kernel
theorem dL_law_538 : decode cL_law 538 = .ok (.ifCond .ne 15, 3) := by decide +kernel
theorem dL_law_541 : decode cL_law 541 = .ok (.aload_n 3, 1) := by decide +kernel
theorem dL_law_542 : decode cL_law 542 = .ok (.iconst 0, 1) := by decide +kernel
theorem dL_law_543 : decode cL_law 543 = .ok (.laload, 1) := by decide +kernel
theorem dL_law_544 : decode cL_law 544 = .ok (.iload 6, 2) := by decide +kernel
theorem dL_law_546 : decode cL_law 546 = .ok (.i2l, 1) := by decide +kernel
theorem dL_law_547 : decode cL_law 547 = .ok (.lcmp, 1) := by decide +kernel
theorem dL_law_548 : decode cL_law 548 = .ok (.ifCond .eq 5, 3) := by decide +kernel
theorem dL_law_551 : decode cL_law 551 = .ok (.iconst 0, 1) := by decide +kernel
theorem dL_law_552 : decode cL_law 552 = .ok (.ireturn, 1) := by decide +kernel
theorem dL_law_553 : decode cL_law 553 = .ok (.goto 731, 3) := by decide +kernel
theorem dL_law_556 : decode cL_law 556 = .ok (.aload_n 1, 1) := by decide +kernel
theorem dL_law_557 : decode cL_law 557 = .ok (.aload_n 0, 1) := by decide +kernel
theorem dL_law_558 : decode cL_law 558 = .ok (.iload 4, 2) := by decide +kernel
theorem dL_law_560 : decode cL_law 560 = .ok (.iconst 1, 1) := by decide +kernel
theorem dL_law_561 : decode cL_law 561 = .ok (.iadd, 1) := by decide +kernel
theorem dL_law_562 : decode cL_law 562 = .ok (.iaload, 1) := by decide +kernel
theorem dL_law_563 : decode cL_law 563 = .ok (.aload_n 0, 1) := by decide +kernel
theorem dL_law_564 : decode cL_law 564 = .ok (.iload 4, 2) := by decide +kernel
theorem dL_law_566 : decode cL_law 566 = .ok (.iconst 2, 1) := by decide +kernel
theorem dL_law_567 : decode cL_law 567 = .ok (.iadd, 1) := by decide +kernel
theorem dL_law_568 : decode cL_law 568 = .ok (.iaload, 1) := by decide +kernel
theorem dL_law_569 : decode cL_law 569 = .ok (.aload_n 0, 1) := by decide +kernel
theorem dL_law_570 : decode cL_law 570 = .ok (.iload 4, 2) := by decide +kernel
theorem dL_law_572 : decode cL_law 572 = .ok (.iconst 3, 1) := by decide +kernel
theorem dL_law_573 : decode cL_law 573 = .ok (.iadd, 1) := by decide +kernel
theorem dL_law_574 : decode cL_law 574 = .ok (.iaload, 1) := by decide +kernel
theorem dL_law_575 : decode cL_law 575 = .ok (.aload_n 3, 1) := by decide +kernel
theorem dL_law_576 : decode cL_law 576 = .ok (.invokestatic 95, 3) := by decide +kernel
theorem dL_law_579 : decode cL_law 579 = .ok (.istore 5, 2) := by decide +kernel
theorem dL_law_581 : decode cL_law 581 = .ok (.aload_n 2, 1) := by decide +kernel
theorem dL_law_582 : decode cL_law 582 = .ok (.aload_n 0, 1) := by decide +kernel
theorem dL_law_583 : decode cL_law 583 = .ok (.iload 4, 2) := by decide +kernel
theorem dL_law_585 : decode cL_law 585 = .ok (.iconst 1, 1) := by decide +kernel
theorem dL_law_586 : decode cL_law 586 = .ok (.iadd, 1) := by decide +kernel
theorem dL_law_587 : decode cL_law 587 = .ok (.iaload, 1) := by decide +kernel
theorem dL_law_588 : decode cL_law 588 = .ok (.aload_n 0, 1) := by decide +kernel
theorem dL_law_589 : decode cL_law 589 = .ok (.iload 4, 2) := by decide +kernel
theorem dL_law_591 : decode cL_law 591 = .ok (.iconst 2, 1) := by decide +kernel
theorem dL_law_592 : decode cL_law 592 = .ok (.iadd, 1) := by decide +kernel
theorem dL_law_593 : decode cL_law 593 = .ok (.iaload, 1) := by decide +kernel
theorem dL_law_594 : decode cL_law 594 = .ok (.aload_n 0, 1) := by decide +kernel
theorem dL_law_595 : decode cL_law 595 = .ok (.iload 4, 2) := by decide +kernel
theorem dL_law_597 : decode cL_law 597 = .ok (.iconst 3, 1) := by decide +kernel
theorem dL_law_598 : decode cL_law 598 = .ok (.iadd, 1) := by decide +kernel
theorem dL_law_599 : decode cL_law 599 = .ok (.iaload, 1) := by decide +kernel
theorem dL_law_600 : decode cL_law 600 = .ok (.invokevirtual 98, 3) := by decide +kernel
theorem dL_law_603 : decode cL_law 603 = .ok (.istore 6, 2) := by decide +kernel
theorem dL_law_605 : decode cL_law 605 = .ok (.aload_n 2, 1) := by decide +kernel
theorem dL_law_606 : decode cL_law 606 = .ok (.invokevirtual 74, 3) := by decide +kernel
theorem dL_law_609 : decode cL_law 609 = .ok (.iload 5, 2) := by decide +kernel
theorem dL_law_611 : decode cL_law 611 = .ok (.if_icmp .eq 5, 3) := by decide +kernel
theorem dL_law_614 : decode cL_law 614 = .ok (.iconst 0, 1) := by decide +kernel
theorem dL_law_615 : decode cL_law 615 = .ok (.ireturn, 1) := by decide +kernel
theorem dL_law_616 : decode cL_law 616 = .ok (.iload 5, 2) := by decide +kernel
theorem dL_law_618 : decode cL_law 618 = .ok (.ifCond .ne 15, 3) := by decide +kernel
theorem dL_law_621 : decode cL_law 621 = .ok (.aload_n 3, 1) := by decide +kernel
theorem dL_law_622 : decode cL_law 622 = .ok (.iconst 0, 1) := by decide +kernel
theorem dL_law_623 : decode cL_law 623 = .ok (.laload, 1) := by decide +kernel
theorem dL_law_624 : decode cL_law 624 = .ok (.iload 6, 2) := by decide +kernel
theorem dL_law_626 : decode cL_law 626 = .ok (.i2l, 1) := by decide +kernel
theorem dL_law_627 : decode cL_law 627 = .ok (.lcmp, 1) := by decide +kernel
theorem dL_law_628 : decode cL_law 628 = .ok (.ifCond .eq 5, 3) := by decide +kernel
theorem dL_law_631 : decode cL_law 631 = .ok (.iconst 0, 1) := by decide +kernel
theorem dL_law_632 : decode cL_law 632 = .ok (.ireturn, 1) := by decide +kernel
theorem dL_law_633 : decode cL_law 633 = .ok (.goto 651, 3) := by decide +kernel
theorem dL_law_636 : decode cL_law 636 = .ok (.aload_n 1, 1) := by decide +kernel
theorem dL_law_637 : decode cL_law 637 = .ok (.invokevirtual 99, 3) := by decide +kernel
theorem dL_law_640 : decode cL_law 640 = .ok (.aload_n 2, 1) := by decide +kernel
theorem dL_law_641 : decode cL_law 641 = .ok (.invokevirtual 102, 3) := by decide +kernel
theorem dL_law_644 : decode cL_law 644 = .ok (.if_icmp .eq 640, 3) := by decide +kernel
theorem dL_law_647 : decode cL_law 647 = .ok (.iconst 0, 1) := by decide +kernel
theorem dL_law_648 : decode cL_law 648 = .ok (.ireturn, 1) := by decide +kernel
theorem dL_law_649 : decode cL_law 649 = .ok (.aload_n 1, 1) := by decide +kernel
theorem dL_law_650 : decode cL_law 650 = .ok (.aload_n 0, 1) := by decide +kernel
theorem dL_law_651 : decode cL_law 651 = .ok (.iload 4, 2) := by decide +kernel
theorem dL_law_653 : decode cL_law 653 = .ok (.iconst 1, 1) := by decide +kernel
theorem dL_law_654 : decode cL_law 654 = .ok (.iadd, 1) := by decide +kernel
theorem dL_law_655 : decode cL_law 655 = .ok (.iaload, 1) := by decide +kernel
theorem dL_law_656 : decode cL_law 656 = .ok (.aload_n 0, 1) := by decide +kernel
theorem dL_law_657 : decode cL_law 657 = .ok (.iload 4, 2) := by decide +kernel
theorem dL_law_659 : decode cL_law 659 = .ok (.iconst 2, 1) := by decide +kernel
theorem dL_law_660 : decode cL_law 660 = .ok (.iadd, 1) := by decide +kernel
theorem dL_law_661 : decode cL_law 661 = .ok (.iaload, 1) := by decide +kernel
theorem dL_law_662 : decode cL_law 662 = .ok (.aload_n 3, 1) := by decide +kernel
theorem dL_law_663 : decode cL_law 663 = .ok (.invokestatic 103, 3) := by decide +kernel
theorem dL_law_666 : decode cL_law 666 = .ok (.istore 5, 2) := by decide +kernel
theorem dL_law_668 : decode cL_law 668 = .ok (.aload_n 2, 1) := by decide +kernel
theorem dL_law_669 : decode cL_law 669 = .ok (.aload_n 0, 1) := by decide +kernel
theorem dL_law_670 : decode cL_law 670 = .ok (.iload 4, 2) := by decide +kernel
theorem dL_law_672 : decode cL_law 672 = .ok (.iconst 1, 1) := by decide +kernel
theorem dL_law_673 : decode cL_law 673 = .ok (.iadd, 1) := by decide +kernel
theorem dL_law_674 : decode cL_law 674 = .ok (.iaload, 1) := by decide +kernel
theorem dL_law_675 : decode cL_law 675 = .ok (.aload_n 0, 1) := by decide +kernel
theorem dL_law_676 : decode cL_law 676 = .ok (.iload 4, 2) := by decide +kernel
theorem dL_law_678 : decode cL_law 678 = .ok (.iconst 2, 1) := by decide +kernel
theorem dL_law_679 : decode cL_law 679 = .ok (.iadd, 1) := by decide +kernel
theorem dL_law_680 : decode cL_law 680 = .ok (.iaload, 1) := by decide +kernel
theorem dL_law_681 : decode cL_law 681 = .ok (.invokevirtual 105, 3) := by decide +kernel
theorem dL_law_684 : decode cL_law 684 = .ok (.istore 6, 2) := by decide +kernel
theorem dL_law_686 : decode cL_law 686 = .ok (.aload_n 2, 1) := by decide +kernel
theorem dL_law_687 : decode cL_law 687 = .ok (.invokevirtual 74, 3) := by decide +kernel
theorem dL_law_690 : decode cL_law 690 = .ok (.iload 5, 2) := by decide +kernel
theorem dL_law_692 : decode cL_law 692 = .ok (.if_icmp .eq 5, 3) := by decide +kernel
theorem dL_law_695 : decode cL_law 695 = .ok (.iconst 0, 1) := by decide +kernel
theorem dL_law_696 : decode cL_law 696 = .ok (.ireturn, 1) := by decide +kernel
theorem dL_law_697 : decode cL_law 697 = .ok (.iload 5, 2) := by decide +kernel
theorem dL_law_699 : decode cL_law 699 = .ok (.ifCond .ne 15, 3) := by decide +kernel
theorem dL_law_702 : decode cL_law 702 = .ok (.aload_n 3, 1) := by decide +kernel
theorem dL_law_703 : decode cL_law 703 = .ok (.iconst 0, 1) := by decide +kernel
theorem dL_law_704 : decode cL_law 704 = .ok (.laload, 1) := by decide +kernel
theorem dL_law_705 : decode cL_law 705 = .ok (.iload 6, 2) := by decide +kernel
theorem dL_law_707 : decode cL_law 707 = .ok (.i2l, 1) := by decide +kernel
theorem dL_law_708 : decode cL_law 708 = .ok (.lcmp, 1) := by decide +kernel
theorem dL_law_709 : decode cL_law 709 = .ok (.ifCond .eq 5, 3) := by decide +kernel
theorem dL_law_712 : decode cL_law 712 = .ok (.iconst 0, 1) := by decide +kernel
theorem dL_law_713 : decode cL_law 713 = .ok (.ireturn, 1) := by decide +kernel
theorem dL_law_714 : decode cL_law 714 = .ok (.goto 570, 3) := by decide +kernel
theorem dL_law_717 : decode cL_law 717 = .ok (.aload_n 1, 1) := by decide +kernel
theorem dL_law_718 : decode cL_law 718 = .ok (.aload_n 0, 1) := by decide +kernel
theorem dL_law_719 : decode cL_law 719 = .ok (.iload 4, 2) := by decide +kernel
theorem dL_law_721 : decode cL_law 721 = .ok (.iconst 1, 1) := by decide +kernel
theorem dL_law_722 : decode cL_law 722 = .ok (.iadd, 1) := by decide +kernel
theorem dL_law_723 : decode cL_law 723 = .ok (.iaload, 1) := by decide +kernel
theorem dL_law_724 : decode cL_law 724 = .ok (.aload_n 0, 1) := by decide +kernel
theorem dL_law_725 : decode cL_law 725 = .ok (.iload 4, 2) := by decide +kernel
theorem dL_law_727 : decode cL_law 727 = .ok (.iconst 2, 1) := by decide +kernel
theorem dL_law_728 : decode cL_law 728 = .ok (.iadd, 1) := by decide +kernel
theorem dL_law_729 : decode cL_law 729 = .ok (.iaload, 1) := by decide +kernel
theorem dL_law_730 : decode cL_law 730 = .ok (.aload_n 0, 1) := by decide +kernel
theorem dL_law_731 : decode cL_law 731 = .ok (.iload 4, 2) := by decide +kernel
theorem dL_law_733 : decode cL_law 733 = .ok (.iconst 3, 1) := by decide +kernel
theorem dL_law_734 : decode cL_law 734 = .ok (.iadd, 1) := by decide +kernel
theorem dL_law_735 : decode cL_law 735 = .ok (.iaload, 1) := by decide +kernel
theorem dL_law_736 : decode cL_law 736 = .ok (.aload_n 3, 1) := by decide +kernel
theorem dL_law_737 : decode cL_law 737 = .ok (.invokestatic 106, 3) := by decide +kernel
theorem dL_law_740 : decode cL_law 740 = .ok (.istore 5, 2) := by decide +kernel
theorem dL_law_742 : decode cL_law 742 = .ok (.aload_n 2, 1) := by decide +kernel
theorem dL_law_743 : decode cL_law 743 = .ok (.aload_n 0, 1) := by decide +kernel
theorem dL_law_744 : decode cL_law 744 = .ok (.iload 4, 2) := by decide +kernel
theorem dL_law_746 : decode cL_law 746 = .ok (.iconst 1, 1) := by decide +kernel
theorem dL_law_747 : decode cL_law 747 = .ok (.iadd, 1) := by decide +kernel
theorem dL_law_748 : decode cL_law 748 = .ok (.iaload, 1) := by decide +kernel
theorem dL_law_749 : decode cL_law 749 = .ok (.aload_n 0, 1) := by decide +kernel
theorem dL_law_750 : decode cL_law 750 = .ok (.iload 4, 2) := by decide +kernel
theorem dL_law_752 : decode cL_law 752 = .ok (.iconst 2, 1) := by decide +kernel
theorem dL_law_753 : decode cL_law 753 = .ok (.iadd, 1) := by decide +kernel
theorem dL_law_754 : decode cL_law 754 = .ok (.iaload, 1) := by decide +kernel
theorem dL_law_755 : decode cL_law 755 = .ok (.aload_n 0, 1) := by decide +kernel
theorem dL_law_756 : decode cL_law 756 = .ok (.iload 4, 2) := by decide +kernel
theorem dL_law_758 : decode cL_law 758 = .ok (.iconst 3, 1) := by decide +kernel
theorem dL_law_759 : decode cL_law 759 = .ok (.iadd, 1) := by decide +kernel
theorem dL_law_760 : decode cL_law 760 = .ok (.iaload, 1) := by decide +kernel
theorem dL_law_761 : decode cL_law 761 = .ok (.invokevirtual 108, 3) := by decide +kernel
theorem dL_law_764 : decode cL_law 764 = .ok (.istore 6, 2) := by decide +kernel
theorem dL_law_766 : decode cL_law 766 = .ok (.aload_n 2, 1) := by decide +kernel
theorem dL_law_767 : decode cL_law 767 = .ok (.invokevirtual 74, 3) := by decide +kernel
theorem dL_law_770 : decode cL_law 770 = .ok (.iload 5, 2) := by decide +kernel
theorem dL_law_772 : decode cL_law 772 = .ok (.if_icmp .eq 5, 3) := by decide +kernel
theorem dL_law_775 : decode cL_law 775 = .ok (.iconst 0, 1) := by decide +kernel
theorem dL_law_776 : decode cL_law 776 = .ok (.ireturn, 1) := by decide +kernel
theorem dL_law_777 : decode cL_law 777 = .ok (.iload 5, 2) := by decide +kernel
theorem dL_law_779 : decode cL_law 779 = .ok (.ifCond .ne 15, 3) := by decide +kernel
theorem dL_law_782 : decode cL_law 782 = .ok (.aload_n 3, 1) := by decide +kernel
theorem dL_law_783 : decode cL_law 783 = .ok (.iconst 0, 1) := by decide +kernel
theorem dL_law_784 : decode cL_law 784 = .ok (.laload, 1) := by decide +kernel
theorem dL_law_785 : decode cL_law 785 = .ok (.iload 6, 2) := by decide +kernel
theorem dL_law_787 : decode cL_law 787 = .ok (.i2l, 1) := by decide +kernel
theorem dL_law_788 : decode cL_law 788 = .ok (.lcmp, 1) := by decide +kernel
theorem dL_law_789 : decode cL_law 789 = .ok (.ifCond .eq 5, 3) := by decide +kernel
theorem dL_law_792 : decode cL_law 792 = .ok (.iconst 0, 1) := by decide +kernel
theorem dL_law_793 : decode cL_law 793 = .ok (.ireturn, 1) := by decide +kernel
theorem dL_law_794 : decode cL_law 794 = .ok (.goto 490, 3) := by decide +kernel
theorem dL_law_797 : decode cL_law 797 = .ok (.aload_n 1, 1) := by decide +kernel
theorem dL_law_798 : decode cL_law 798 = .ok (.aload_n 0, 1) := by decide +kernel
theorem dL_law_799 : decode cL_law 799 = .ok (.iload 4, 2) := by decide +kernel
theorem dL_law_801 : decode cL_law 801 = .ok (.iconst 1, 1) := by decide +kernel
theorem dL_law_802 : decode cL_law 802 = .ok (.iadd, 1) := by decide +kernel
theorem dL_law_803 : decode cL_law 803 = .ok (.iaload, 1) := by decide +kernel
theorem dL_law_804 : decode cL_law 804 = .ok (.aload_n 0, 1) := by decide +kernel
theorem dL_law_805 : decode cL_law 805 = .ok (.iload 4, 2) := by decide +kernel
theorem dL_law_807 : decode cL_law 807 = .ok (.iconst 2, 1) := by decide +kernel
theorem dL_law_808 : decode cL_law 808 = .ok (.iadd, 1) := by decide +kernel
theorem dL_law_809 : decode cL_law 809 = .ok (.iaload, 1) := by decide +kernel
theorem dL_law_810 : decode cL_law 810 = .ok (.aload_n 3, 1) := by decide +kernel
theorem dL_law_811 : decode cL_law 811 = .ok (.invokestatic 109, 3) := by decide +kernel
theorem dL_law_814 : decode cL_law 814 = .ok (.istore 5, 2) := by decide +kernel
theorem dL_law_816 : decode cL_law 816 = .ok (.aload_n 2, 1) := by decide +kernel
theorem dL_law_817 : decode cL_law 817 = .ok (.aload_n 0, 1) := by decide +kernel
theorem dL_law_818 : decode cL_law 818 = .ok (.iload 4, 2) := by decide +kernel
theorem dL_law_820 : decode cL_law 820 = .ok (.iconst 1, 1) := by decide +kernel
theorem dL_law_821 : decode cL_law 821 = .ok (.iadd, 1) := by decide +kernel
theorem dL_law_822 : decode cL_law 822 = .ok (.iaload, 1) := by decide +kernel
theorem dL_law_823 : decode cL_law 823 = .ok (.aload_n 0, 1) := by decide +kernel
theorem dL_law_824 : decode cL_law 824 = .ok (.iload 4, 2) := by decide +kernel
theorem dL_law_826 : decode cL_law 826 = .ok (.iconst 2, 1) := by decide +kernel
theorem dL_law_827 : decode cL_law 827 = .ok (.iadd, 1) := by decide +kernel
theorem dL_law_828 : decode cL_law 828 = .ok (.iaload, 1) := by decide +kernel
theorem dL_law_829 : decode cL_law 829 = .ok (.invokevirtual 111, 3) := by decide +kernel
theorem dL_law_832 : decode cL_law 832 = .ok (.istore 6, 2) := by decide +kernel
theorem dL_law_834 : decode cL_law 834 = .ok (.aload_n 2, 1) := by decide +kernel
theorem dL_law_835 : decode cL_law 835 = .ok (.invokevirtual 74, 3) := by decide +kernel
theorem dL_law_838 : decode cL_law 838 = .ok (.iload 5, 2) := by decide +kernel
theorem dL_law_840 : decode cL_law 840 = .ok (.if_icmp .eq 5, 3) := by decide +kernel
theorem dL_law_843 : decode cL_law 843 = .ok (.iconst 0, 1) := by decide +kernel
theorem dL_law_844 : decode cL_law 844 = .ok (.ireturn, 1) := by decide +kernel
theorem dL_law_845 : decode cL_law 845 = .ok (.iload 5, 2) := by decide +kernel
theorem dL_law_847 : decode cL_law 847 = .ok (.ifCond .ne 15, 3) := by decide +kernel
theorem dL_law_850 : decode cL_law 850 = .ok (.aload_n 3, 1) := by decide +kernel
theorem dL_law_851 : decode cL_law 851 = .ok (.iconst 0, 1) := by decide +kernel
theorem dL_law_852 : decode cL_law 852 = .ok (.laload, 1) := by decide +kernel
theorem dL_law_853 : decode cL_law 853 = .ok (.iload 6, 2) := by decide +kernel
theorem dL_law_855 : decode cL_law 855 = .ok (.i2l, 1) := by decide +kernel
theorem dL_law_856 : decode cL_law 856 = .ok (.lcmp, 1) := by decide +kernel
theorem dL_law_857 : decode cL_law 857 = .ok (.ifCond .eq 5, 3) := by decide +kernel
theorem dL_law_860 : decode cL_law 860 = .ok (.iconst 0, 1) := by decide +kernel
theorem dL_law_861 : decode cL_law 861 = .ok (.ireturn, 1) := by decide +kernel
theorem dL_law_862 : decode cL_law 862 = .ok (.goto 422, 3) := by decide +kernel
theorem dL_law_865 : decode cL_law 865 = .ok (.aload_n 1, 1) := by decide +kernel
theorem dL_law_866 : decode cL_law 866 = .ok (.aload_n 0, 1) := by decide +kernel
theorem dL_law_867 : decode cL_law 867 = .ok (.iload 4, 2) := by decide +kernel
theorem dL_law_869 : decode cL_law 869 = .ok (.iconst 1, 1) := by decide +kernel
theorem dL_law_870 : decode cL_law 870 = .ok (.iadd, 1) := by decide +kernel
theorem dL_law_871 : decode cL_law 871 = .ok (.iaload, 1) := by decide +kernel
theorem dL_law_872 : decode cL_law 872 = .ok (.aload_n 0, 1) := by decide +kernel
theorem dL_law_873 : decode cL_law 873 = .ok (.iload 4, 2) := by decide +kernel
theorem dL_law_875 : decode cL_law 875 = .ok (.iconst 2, 1) := by decide +kernel
theorem dL_law_876 : decode cL_law 876 = .ok (.iadd, 1) := by decide +kernel
theorem dL_law_877 : decode cL_law 877 = .ok (.iaload, 1) := by decide +kernel
theorem dL_law_878 : decode cL_law 878 = .ok (.aload_n 3, 1) := by decide +kernel
theorem dL_law_879 : decode cL_law 879 = .ok (.invokestatic 112, 3) := by decide +kernel
theorem dL_law_882 : decode cL_law 882 = .ok (.istore 5, 2) := by decide +kernel
theorem dL_law_884 : decode cL_law 884 = .ok (.aload_n 2, 1) := by decide +kernel
theorem dL_law_885 : decode cL_law 885 = .ok (.aload_n 0, 1) := by decide +kernel
theorem dL_law_886 : decode cL_law 886 = .ok (.iload 4, 2) := by decide +kernel
theorem dL_law_888 : decode cL_law 888 = .ok (.iconst 1, 1) := by decide +kernel
theorem dL_law_889 : decode cL_law 889 = .ok (.iadd, 1) := by decide +kernel
theorem dL_law_890 : decode cL_law 890 = .ok (.iaload, 1) := by decide +kernel
theorem dL_law_891 : decode cL_law 891 = .ok (.aload_n 0, 1) := by decide +kernel
theorem dL_law_892 : decode cL_law 892 = .ok (.iload 4, 2) := by decide +kernel
theorem dL_law_894 : decode cL_law 894 = .ok (.iconst 2, 1) := by decide +kernel
theorem dL_law_895 : decode cL_law 895 = .ok (.iadd, 1) := by decide +kernel
theorem dL_law_896 : decode cL_law 896 = .ok (.iaload, 1) := by decide +kernel
theorem dL_law_897 : decode cL_law 897 = .ok (.invokevirtual 114, 3) := by decide +kernel
theorem dL_law_900 : decode cL_law 900 = .ok (.istore 6, 2) := by decide +kernel
theorem dL_law_902 : decode cL_law 902 = .ok (.aload_n 2, 1) := by decide +kernel
theorem dL_law_903 : decode cL_law 903 = .ok (.invokevirtual 74, 3) := by decide +kernel
theorem dL_law_906 : decode cL_law 906 = .ok (.iload 5, 2) := by decide +kernel
theorem dL_law_908 : decode cL_law 908 = .ok (.if_icmp .eq 5, 3) := by decide +kernel
theorem dL_law_911 : decode cL_law 911 = .ok (.iconst 0, 1) := by decide +kernel
theorem dL_law_912 : decode cL_law 912 = .ok (.ireturn, 1) := by decide +kernel
theorem dL_law_913 : decode cL_law 913 = .ok (.iload 5, 2) := by decide +kernel
theorem dL_law_915 : decode cL_law 915 = .ok (.ifCond .ne 15, 3) := by decide +kernel
theorem dL_law_918 : decode cL_law 918 = .ok (.aload_n 3, 1) := by decide +kernel
theorem dL_law_919 : decode cL_law 919 = .ok (.iconst 0, 1) := by decide +kernel
theorem dL_law_920 : decode cL_law 920 = .ok (.laload, 1) := by decide +kernel
theorem dL_law_921 : decode cL_law 921 = .ok (.iload 6, 2) := by decide +kernel
theorem dL_law_923 : decode cL_law 923 = .ok (.i2l, 1) := by decide +kernel
theorem dL_law_924 : decode cL_law 924 = .ok (.lcmp, 1) := by decide +kernel
theorem dL_law_925 : decode cL_law 925 = .ok (.ifCond .eq 5, 3) := by decide +kernel
theorem dL_law_928 : decode cL_law 928 = .ok (.iconst 0, 1) := by decide +kernel
theorem dL_law_929 : decode cL_law 929 = .ok (.ireturn, 1) := by decide +kernel
theorem dL_law_930 : decode cL_law 930 = .ok (.goto 354, 3) := by decide +kernel
theorem dL_law_933 : decode cL_law 933 = .ok (.aload_n 1, 1) := by decide +kernel
theorem dL_law_934 : decode cL_law 934 = .ok (.aload_n 0, 1) := by decide +kernel
theorem dL_law_935 : decode cL_law 935 = .ok (.iload 4, 2) := by decide +kernel
theorem dL_law_937 : decode cL_law 937 = .ok (.iconst 1, 1) := by decide +kernel
theorem dL_law_938 : decode cL_law 938 = .ok (.iadd, 1) := by decide +kernel
theorem dL_law_939 : decode cL_law 939 = .ok (.iaload, 1) := by decide +kernel
theorem dL_law_940 : decode cL_law 940 = .ok (.aload_n 3, 1) := by decide +kernel
theorem dL_law_941 : decode cL_law 941 = .ok (.invokestatic 115, 3) := by decide +kernel
theorem dL_law_944 : decode cL_law 944 = .ok (.istore 5, 2) := by decide +kernel
theorem dL_law_946 : decode cL_law 946 = .ok (.aload_n 2, 1) := by decide +kernel
theorem dL_law_947 : decode cL_law 947 = .ok (.aload_n 0, 1) := by decide +kernel
theorem dL_law_948 : decode cL_law 948 = .ok (.iload 4, 2) := by decide +kernel
theorem dL_law_950 : decode cL_law 950 = .ok (.iconst 1, 1) := by decide +kernel
theorem dL_law_951 : decode cL_law 951 = .ok (.iadd, 1) := by decide +kernel
theorem dL_law_952 : decode cL_law 952 = .ok (.iaload, 1) := by decide +kernel
theorem dL_law_953 : decode cL_law 953 = .ok (.invokevirtual 117, 3) := by decide +kernel
theorem dL_law_956 : decode cL_law 956 = .ok (.istore 6, 2) := by decide +kernel
theorem dL_law_958 : decode cL_law 958 = .ok (.aload_n 2, 1) := by decide +kernel
theorem dL_law_959 : decode cL_law 959 = .ok (.invokevirtual 74, 3) := by decide +kernel
theorem dL_law_962 : decode cL_law 962 = .ok (.iload 5, 2) := by decide +kernel
theorem dL_law_964 : decode cL_law 964 = .ok (.if_icmp .eq 5, 3) := by decide +kernel
theorem dL_law_967 : decode cL_law 967 = .ok (.iconst 0, 1) := by decide +kernel
theorem dL_law_968 : decode cL_law 968 = .ok (.ireturn, 1) := by decide +kernel
theorem dL_law_969 : decode cL_law 969 = .ok (.iload 5, 2) := by decide +kernel
theorem dL_law_971 : decode cL_law 971 = .ok (.ifCond .ne 15, 3) := by decide +kernel
theorem dL_law_974 : decode cL_law 974 = .ok (.aload_n 3, 1) := by decide +kernel
theorem dL_law_975 : decode cL_law 975 = .ok (.iconst 0, 1) := by decide +kernel
theorem dL_law_976 : decode cL_law 976 = .ok (.laload, 1) := by decide +kernel
theorem dL_law_977 : decode cL_law 977 = .ok (.iload 6, 2) := by decide +kernel
theorem dL_law_979 : decode cL_law 979 = .ok (.i2l, 1) := by decide +kernel
theorem dL_law_980 : decode cL_law 980 = .ok (.lcmp, 1) := by decide +kernel
theorem dL_law_981 : decode cL_law 981 = .ok (.ifCond .eq 5, 3) := by decide +kernel
theorem dL_law_984 : decode cL_law 984 = .ok (.iconst 0, 1) := by decide +kernel
theorem dL_law_985 : decode cL_law 985 = .ok (.ireturn, 1) := by decide +kernel
theorem dL_law_986 : decode cL_law 986 = .ok (.goto 298, 3) := by decide +kernel
theorem dL_law_989 : decode cL_law 989 = .ok (.aload_n 1, 1) := by decide +kernel
theorem dL_law_990 : decode cL_law 990 = .ok (.aload_n 0, 1) := by decide +kernel
theorem dL_law_991 : decode cL_law 991 = .ok (.iload 4, 2) := by decide +kernel
theorem dL_law_993 : decode cL_law 993 = .ok (.iconst 1, 1) := by decide +kernel
theorem dL_law_994 : decode cL_law 994 = .ok (.iadd, 1) := by decide +kernel
theorem dL_law_995 : decode cL_law 995 = .ok (.iaload, 1) := by decide +kernel
theorem dL_law_996 : decode cL_law 996 = .ok (.aload_n 0, 1) := by decide +kernel
theorem dL_law_997 : decode cL_law 997 = .ok (.iload 4, 2) := by decide +kernel
theorem dL_law_999 : decode cL_law 999 = .ok (.iconst 2, 1) := by decide +kernel
theorem dL_law_1000 : decode cL_law 1000 = .ok (.iadd, 1) := by decide +kernel
theorem dL_law_1001 : decode cL_law 1001 = .ok (.iaload, 1) := by decide +kernel
theorem dL_law_1002 : decode cL_law 1002 = .ok (.aload_n 0, 1) := by decide +kernel
theorem dL_law_1003 : decode cL_law 1003 = .ok (.iload 4, 2) := by decide +kernel
theorem dL_law_1005 : decode cL_law 1005 = .ok (.iconst 3, 1) := by decide +kernel
theorem dL_law_1006 : decode cL_law 1006 = .ok (.iadd, 1) := by decide +kernel
theorem dL_law_1007 : decode cL_law 1007 = .ok (.iaload, 1) := by decide +kernel
theorem dL_law_1008 : decode cL_law 1008 = .ok (.aload_n 0, 1) := by decide +kernel
theorem dL_law_1009 : decode cL_law 1009 = .ok (.iload 4, 2) := by decide +kernel
theorem dL_law_1011 : decode cL_law 1011 = .ok (.iconst 4, 1) := by decide +kernel
theorem dL_law_1012 : decode cL_law 1012 = .ok (.iadd, 1) := by decide +kernel
theorem dL_law_1013 : decode cL_law 1013 = .ok (.iaload, 1) := by decide +kernel
theorem dL_law_1014 : decode cL_law 1014 = .ok (.aload_n 3, 1) := by decide +kernel
theorem dL_law_1015 : decode cL_law 1015 = .ok (.invokestatic 118, 3) := by decide +kernel
theorem dL_law_1018 : decode cL_law 1018 = .ok (.istore 5, 2) := by decide +kernel
theorem dL_law_1020 : decode cL_law 1020 = .ok (.aload_n 2, 1) := by decide +kernel
theorem dL_law_1021 : decode cL_law 1021 = .ok (.aload_n 0, 1) := by decide +kernel
theorem dL_law_1022 : decode cL_law 1022 = .ok (.iload 4, 2) := by decide +kernel
theorem dL_law_1024 : decode cL_law 1024 = .ok (.iconst 1, 1) := by decide +kernel
theorem dL_law_1025 : decode cL_law 1025 = .ok (.iadd, 1) := by decide +kernel
theorem dL_law_1026 : decode cL_law 1026 = .ok (.iaload, 1) := by decide +kernel
theorem dL_law_1027 : decode cL_law 1027 = .ok (.aload_n 0, 1) := by decide +kernel
theorem dL_law_1028 : decode cL_law 1028 = .ok (.iload 4, 2) := by decide +kernel
theorem dL_law_1030 : decode cL_law 1030 = .ok (.iconst 2, 1) := by decide +kernel
theorem dL_law_1031 : decode cL_law 1031 = .ok (.iadd, 1) := by decide +kernel
theorem dL_law_1032 : decode cL_law 1032 = .ok (.iaload, 1) := by decide +kernel
theorem dL_law_1033 : decode cL_law 1033 = .ok (.aload_n 0, 1) := by decide +kernel
theorem dL_law_1034 : decode cL_law 1034 = .ok (.iload 4, 2) := by decide +kernel
theorem dL_law_1036 : decode cL_law 1036 = .ok (.iconst 3, 1) := by decide +kernel
theorem dL_law_1037 : decode cL_law 1037 = .ok (.iadd, 1) := by decide +kernel
theorem dL_law_1038 : decode cL_law 1038 = .ok (.iaload, 1) := by decide +kernel
theorem dL_law_1039 : decode cL_law 1039 = .ok (.aload_n 0, 1) := by decide +kernel
theorem dL_law_1040 : decode cL_law 1040 = .ok (.iload 4, 2) := by decide +kernel
theorem dL_law_1042 : decode cL_law 1042 = .ok (.iconst 4, 1) := by decide +kernel
theorem dL_law_1043 : decode cL_law 1043 = .ok (.iadd, 1) := by decide +kernel
theorem dL_law_1044 : decode cL_law 1044 = .ok (.iaload, 1) := by decide +kernel
theorem dL_law_1045 : decode cL_law 1045 = .ok (.invokevirtual 120, 3) := by decide +kernel
theorem dL_law_1048 : decode cL_law 1048 = .ok (.istore 6, 2) := by decide +kernel
theorem dL_law_1050 : decode cL_law 1050 = .ok (.aload_n 2, 1) := by decide +kernel
theorem dL_law_1051 : decode cL_law 1051 = .ok (.invokevirtual 74, 3) := by decide +kernel
theorem dL_law_1054 : decode cL_law 1054 = .ok (.iload 5, 2) := by decide +kernel
theorem dL_law_1056 : decode cL_law 1056 = .ok (.if_icmp .eq 5, 3) := by decide +kernel
theorem dL_law_1059 : decode cL_law 1059 = .ok (.iconst 0, 1) := by decide +kernel
theorem dL_law_1060 : decode cL_law 1060 = .ok (.ireturn, 1) := by decide +kernel
theorem dL_law_1061 : decode cL_law 1061 = .ok (.iload 5, 2) := by decide +kernel
theorem dL_law_1063 : decode cL_law 1063 = .ok (.ifCond .ne 15, 3) := by decide +kernel
theorem dL_law_1066 : decode cL_law 1066 = .ok (.aload_n 3, 1) := by decide +kernel
theorem dL_law_1067 : decode cL_law 1067 = .ok (.iconst 0, 1) := by decide +kernel
theorem dL_law_1068 : decode cL_law 1068 = .ok (.laload, 1) := by decide +kernel
theorem dL_law_1069 : decode cL_law 1069 = .ok (.iload 6, 2) := by decide +kernel
theorem dL_law_1071 : decode cL_law 1071 = .ok (.i2l, 1) := by decide +kernel
theorem dL_law_1072 : decode cL_law 1072 = .ok (.lcmp, 1) := by decide +kernel
theorem dL_law_1073 : decode cL_law 1073 = .ok (.ifCond .eq 5, 3) := by decide +kernel
theorem dL_law_1076 : decode cL_law 1076 = .ok (.iconst 0, 1) := by decide +kernel
theorem dL_law_1077 : decode cL_law 1077 = .ok (.ireturn, 1) := by decide +kernel
theorem dL_law_1078 : decode cL_law 1078 = .ok (.goto 206, 3) := by decide +kernel
theorem dL_law_1081 : decode cL_law 1081 = .ok (.aload_n 1, 1) := by decide +kernel
theorem dL_law_1082 : decode cL_law 1082 = .ok (.aload_n 0, 1) := by decide +kernel
theorem dL_law_1083 : decode cL_law 1083 = .ok (.iload 4, 2) := by decide +kernel
theorem dL_law_1085 : decode cL_law 1085 = .ok (.iconst 1, 1) := by decide +kernel
theorem dL_law_1086 : decode cL_law 1086 = .ok (.iadd, 1) := by decide +kernel
theorem dL_law_1087 : decode cL_law 1087 = .ok (.iaload, 1) := by decide +kernel
theorem dL_law_1088 : decode cL_law 1088 = .ok (.aload_n 0, 1) := by decide +kernel
theorem dL_law_1089 : decode cL_law 1089 = .ok (.iload 4, 2) := by decide +kernel
theorem dL_law_1091 : decode cL_law 1091 = .ok (.iconst 2, 1) := by decide +kernel
theorem dL_law_1092 : decode cL_law 1092 = .ok (.iadd, 1) := by decide +kernel
theorem dL_law_1093 : decode cL_law 1093 = .ok (.iaload, 1) := by decide +kernel
theorem dL_law_1094 : decode cL_law 1094 = .ok (.aload_n 0, 1) := by decide +kernel
theorem dL_law_1095 : decode cL_law 1095 = .ok (.iload 4, 2) := by decide +kernel
theorem dL_law_1097 : decode cL_law 1097 = .ok (.iconst 3, 1) := by decide +kernel
theorem dL_law_1098 : decode cL_law 1098 = .ok (.iadd, 1) := by decide +kernel
theorem dL_law_1099 : decode cL_law 1099 = .ok (.iaload, 1) := by decide +kernel
theorem dL_law_1100 : decode cL_law 1100 = .ok (.aload_n 3, 1) := by decide +kernel
theorem dL_law_1101 : decode cL_law 1101 = .ok (.invokestatic 121, 3) := by decide +kernel
theorem dL_law_1104 : decode cL_law 1104 = .ok (.istore 5, 2) := by decide +kernel
theorem dL_law_1106 : decode cL_law 1106 = .ok (.aload_n 2, 1) := by decide +kernel
theorem dL_law_1107 : decode cL_law 1107 = .ok (.aload_n 0, 1) := by decide +kernel
theorem dL_law_1108 : decode cL_law 1108 = .ok (.iload 4, 2) := by decide +kernel
theorem dL_law_1110 : decode cL_law 1110 = .ok (.iconst 1, 1) := by decide +kernel
theorem dL_law_1111 : decode cL_law 1111 = .ok (.iadd, 1) := by decide +kernel
theorem dL_law_1112 : decode cL_law 1112 = .ok (.iaload, 1) := by decide +kernel
theorem dL_law_1113 : decode cL_law 1113 = .ok (.aload_n 0, 1) := by decide +kernel
theorem dL_law_1114 : decode cL_law 1114 = .ok (.iload 4, 2) := by decide +kernel
theorem dL_law_1116 : decode cL_law 1116 = .ok (.iconst 2, 1) := by decide +kernel
theorem dL_law_1117 : decode cL_law 1117 = .ok (.iadd, 1) := by decide +kernel
theorem dL_law_1118 : decode cL_law 1118 = .ok (.iaload, 1) := by decide +kernel
theorem dL_law_1119 : decode cL_law 1119 = .ok (.aload_n 0, 1) := by decide +kernel
theorem dL_law_1120 : decode cL_law 1120 = .ok (.iload 4, 2) := by decide +kernel
theorem dL_law_1122 : decode cL_law 1122 = .ok (.iconst 3, 1) := by decide +kernel
theorem dL_law_1123 : decode cL_law 1123 = .ok (.iadd, 1) := by decide +kernel
theorem dL_law_1124 : decode cL_law 1124 = .ok (.iaload, 1) := by decide +kernel
theorem dL_law_1125 : decode cL_law 1125 = .ok (.invokevirtual 123, 3) := by decide +kernel
theorem dL_law_1128 : decode cL_law 1128 = .ok (.istore 6, 2) := by decide +kernel
theorem dL_law_1130 : decode cL_law 1130 = .ok (.aload_n 2, 1) := by decide +kernel
theorem dL_law_1131 : decode cL_law 1131 = .ok (.invokevirtual 74, 3) := by decide +kernel
theorem dL_law_1134 : decode cL_law 1134 = .ok (.iload 5, 2) := by decide +kernel
theorem dL_law_1136 : decode cL_law 1136 = .ok (.if_icmp .eq 5, 3) := by decide +kernel
theorem dL_law_1139 : decode cL_law 1139 = .ok (.iconst 0, 1) := by decide +kernel
theorem dL_law_1140 : decode cL_law 1140 = .ok (.ireturn, 1) := by decide +kernel
theorem dL_law_1141 : decode cL_law 1141 = .ok (.iload 5, 2) := by decide +kernel
theorem dL_law_1143 : decode cL_law 1143 = .ok (.ifCond .ne 15, 3) := by decide +kernel
theorem dL_law_1146 : decode cL_law 1146 = .ok (.aload_n 3, 1) := by decide +kernel
theorem dL_law_1147 : decode cL_law 1147 = .ok (.iconst 0, 1) := by decide +kernel
theorem dL_law_1148 : decode cL_law 1148 = .ok (.laload, 1) := by decide +kernel
theorem dL_law_1149 : decode cL_law 1149 = .ok (.iload 6, 2) := by decide +kernel
theorem dL_law_1151 : decode cL_law 1151 = .ok (.i2l, 1) := by decide +kernel
theorem dL_law_1152 : decode cL_law 1152 = .ok (.lcmp, 1) := by decide +kernel
theorem dL_law_1153 : decode cL_law 1153 = .ok (.ifCond .eq 5, 3) := by decide +kernel
theorem dL_law_1156 : decode cL_law 1156 = .ok (.iconst 0, 1) := by decide +kernel
theorem dL_law_1157 : decode cL_law 1157 = .ok (.ireturn, 1) := by decide +kernel
theorem dL_law_1158 : decode cL_law 1158 = .ok (.goto 126, 3) := by decide +kernel
theorem dL_law_1161 : decode cL_law 1161 = .ok (.aload_n 1, 1) := by decide +kernel
theorem dL_law_1162 : decode cL_law 1162 = .ok (.aload_n 0, 1) := by decide +kernel
theorem dL_law_1163 : decode cL_law 1163 = .ok (.iload 4, 2) := by decide +kernel
theorem dL_law_1165 : decode cL_law 1165 = .ok (.iconst 1, 1) := by decide +kernel
theorem dL_law_1166 : decode cL_law 1166 = .ok (.iadd, 1) := by decide +kernel
theorem dL_law_1167 : decode cL_law 1167 = .ok (.iaload, 1) := by decide +kernel
theorem dL_law_1168 : decode cL_law 1168 = .ok (.aload_n 0, 1) := by decide +kernel
theorem dL_law_1169 : decode cL_law 1169 = .ok (.iload 4, 2) := by decide +kernel
theorem dL_law_1171 : decode cL_law 1171 = .ok (.iconst 2, 1) := by decide +kernel
theorem dL_law_1172 : decode cL_law 1172 = .ok (.iadd, 1) := by decide +kernel
theorem dL_law_1173 : decode cL_law 1173 = .ok (.iaload, 1) := by decide +kernel
theorem dL_law_1174 : decode cL_law 1174 = .ok (.aload_n 3, 1) := by decide +kernel
theorem dL_law_1175 : decode cL_law 1175 = .ok (.invokestatic 124, 3) := by decide +kernel
theorem dL_law_1178 : decode cL_law 1178 = .ok (.istore 5, 2) := by decide +kernel
theorem dL_law_1180 : decode cL_law 1180 = .ok (.aload_n 2, 1) := by decide +kernel
theorem dL_law_1181 : decode cL_law 1181 = .ok (.aload_n 0, 1) := by decide +kernel
theorem dL_law_1182 : decode cL_law 1182 = .ok (.iload 4, 2) := by decide +kernel
theorem dL_law_1184 : decode cL_law 1184 = .ok (.iconst 1, 1) := by decide +kernel
theorem dL_law_1185 : decode cL_law 1185 = .ok (.iadd, 1) := by decide +kernel
theorem dL_law_1186 : decode cL_law 1186 = .ok (.iaload, 1) := by decide +kernel
theorem dL_law_1187 : decode cL_law 1187 = .ok (.aload_n 0, 1) := by decide +kernel
theorem dL_law_1188 : decode cL_law 1188 = .ok (.iload 4, 2) := by decide +kernel
theorem dL_law_1190 : decode cL_law 1190 = .ok (.iconst 2, 1) := by decide +kernel
theorem dL_law_1191 : decode cL_law 1191 = .ok (.iadd, 1) := by decide +kernel
theorem dL_law_1192 : decode cL_law 1192 = .ok (.iaload, 1) := by decide +kernel
theorem dL_law_1193 : decode cL_law 1193 = .ok (.invokevirtual 126, 3) := by decide +kernel
theorem dL_law_1196 : decode cL_law 1196 = .ok (.istore 6, 2) := by decide +kernel
theorem dL_law_1198 : decode cL_law 1198 = .ok (.aload_n 2, 1) := by decide +kernel
theorem dL_law_1199 : decode cL_law 1199 = .ok (.invokevirtual 74, 3) := by decide +kernel
theorem dL_law_1202 : decode cL_law 1202 = .ok (.iload 5, 2) := by decide +kernel
theorem dL_law_1204 : decode cL_law 1204 = .ok (.if_icmp .eq 5, 3) := by decide +kernel
theorem dL_law_1207 : decode cL_law 1207 = .ok (.iconst 0, 1) := by decide +kernel
theorem dL_law_1208 : decode cL_law 1208 = .ok (.ireturn, 1) := by decide +kernel
theorem dL_law_1209 : decode cL_law 1209 = .ok (.iload 5, 2) := by decide +kernel
theorem dL_law_1211 : decode cL_law 1211 = .ok (.ifCond .ne 15, 3) := by decide +kernel
theorem dL_law_1214 : decode cL_law 1214 = .ok (.aload_n 3, 1) := by decide +kernel
theorem dL_law_1215 : decode cL_law 1215 = .ok (.iconst 0, 1) := by decide +kernel
theorem dL_law_1216 : decode cL_law 1216 = .ok (.laload, 1) := by decide +kernel
theorem dL_law_1217 : decode cL_law 1217 = .ok (.iload 6, 2) := by decide +kernel
theorem dL_law_1219 : decode cL_law 1219 = .ok (.i2l, 1) := by decide +kernel
theorem dL_law_1220 : decode cL_law 1220 = .ok (.lcmp, 1) := by decide +kernel
theorem dL_law_1221 : decode cL_law 1221 = .ok (.ifCond .eq 5, 3) := by decide +kernel
theorem dL_law_1224 : decode cL_law 1224 = .ok (.iconst 0, 1) := by decide +kernel
theorem dL_law_1225 : decode cL_law 1225 = .ok (.ireturn, 1) := by decide +kernel
theorem dL_law_1226 : decode cL_law 1226 = .ok (.goto 58, 3) := by decide +kernel
theorem dL_law_1229 : decode cL_law 1229 = .ok (.aload_n 1, 1) := by decide +kernel
theorem dL_law_1230 : decode cL_law 1230 = .ok (.invokevirtual 127, 3) := by decide +kernel
theorem dL_law_1233 : decode cL_law 1233 = .ok (.dstore 5, 2) := by decide +kernel
theorem dL_law_1235 : decode cL_law 1235 = .ok (.aload_n 2, 1) := by decide +kernel
theorem dL_law_1236 : decode cL_law 1236 = .ok (.invokevirtual 131, 3) := by decide +kernel
theorem dL_law_1239 : decode cL_law 1239 = .ok (.dstore 7, 2) := by decide +kernel
theorem dL_law_1241 : decode cL_law 1241 = .ok (.dload 5, 2) := by decide +kernel
theorem dL_law_1243 : decode cL_law 1243 = .ok (.dload 7, 2) := by decide +kernel
theorem dL_law_1245 : decode cL_law 1245 = .ok (.dcmp .l, 1) := by decide +kernel
theorem dL_law_1246 : decode cL_law 1246 = .ok (.ifCond .eq 21, 3) := by decide +kernel
theorem dL_law_1249 : decode cL_law 1249 = .ok (.dload 5, 2) := by decide +kernel
theorem dL_law_1251 : decode cL_law 1251 = .ok (.dload 5, 2) := by decide +kernel
theorem dL_law_1253 : decode cL_law 1253 = .ok (.dcmp .l, 1) := by decide +kernel
theorem dL_law_1254 : decode cL_law 1254 = .ok (.ifCond .eq 11, 3) := by decide +kernel
theorem dL_law_1257 : decode cL_law 1257 = .ok (.dload 7, 2) := by decide +kernel
theorem dL_law_1259 : decode cL_law 1259 = .ok (.dload 7, 2) := by decide +kernel
theorem dL_law_1261 : decode cL_law 1261 = .ok (.dcmp .l, 1) := by decide +kernel
theorem dL_law_1262 : decode cL_law 1262 = .ok (.ifCond .ne 5, 3) := by decide +kernel
theorem dL_law_1265 : decode cL_law 1265 = .ok (.iconst 0, 1) := by decide +kernel
theorem dL_law_1266 : decode cL_law 1266 = .ok (.ireturn, 1) := by decide +kernel
theorem dL_law_1267 : decode cL_law 1267 = .ok (.goto 17, 3) := by decide +kernel
theorem dL_law_1270 : decode cL_law 1270 = .ok (.aload_n 1, 1) := by decide +kernel
theorem dL_law_1271 : decode cL_law 1271 = .ok (.invokevirtual 132, 3) := by decide +kernel
theorem dL_law_1274 : decode cL_law 1274 = .ok (.aload_n 2, 1) := by decide +kernel
theorem dL_law_1275 : decode cL_law 1275 = .ok (.invokevirtual 136, 3) := by decide +kernel
theorem dL_law_1278 : decode cL_law 1278 = .ok (.lcmp, 1) := by decide +kernel
theorem dL_law_1279 : decode cL_law 1279 = .ok (.ifCond .eq 5, 3) := by decide +kernel
theorem dL_law_1282 : decode cL_law 1282 = .ok (.iconst 0, 1) := by decide +kernel
theorem dL_law_1283 : decode cL_law 1283 = .ok (.ireturn, 1) := by decide +kernel
theorem dL_law_1284 : decode cL_law 1284 = .ok (.iinc 4 5, 3) := by decide +kernel
theorem dL_law_1287 : decode cL_law 1287 = .ok (.goto (-1264), 3) := by decide +kernel
theorem dL_law_1290 : decode cL_law 1290 = .ok (.iconst 1, 1) := by decide +kernel
theorem dL_law_1291 : decode cL_law 1291 = .ok (.ireturn, 1) := by decide +kernel
end
section
/-- the words of the tables that stay true while a launch warms up -/
def hTbl : List Cond := lw_tbl.filter goodWord
theorem hTbl_good : ∀ w ∈ hTbl, goodWord w = true := fun w h => (List.mem_filter.mp h).2
theorem hIn {w : Cond} (h : w ∈ lw_tbl) (g : goodWord w = true) : w ∈ hTbl := List.mem_filter.mpr ⟨h, g⟩
def hNk : Cond → Bool
  | .castable .. => true
  | .declares .. => true
  | .fieldLinkNest .. => true
  | .methodLinkNest .. => true
  | _ => false
/-- links inside a nest, casts, declarations: they too stay true, by laws of their own -/
def hNest : List Cond := lw_tbl.filter hNk
theorem hInN {w : Cond} (h : w ∈ lw_tbl) (g : hNk w = true) : w ∈ hNest := List.mem_filter.mpr ⟨h, g⟩
theorem hNest_warm {s U : State} (hW : s.WarmedH U.vm) (w : Cond) (hw : w ∈ hNest) (h : va_Nw w s) : va_Nw w U := by
  have g := (List.mem_filter.mp hw).2
  cases w <;> first | exact va_Nw.warmC hW h | exact va_Nw.warmD hW h | exact va_Nw.warmF hW h | exact va_Nw.warmM hW h | (simp [hNk] at g)
theorem qw_0 : (Cond.selects RX4 yX4_ordersThatGotAll yX4_ordersThatGotAll) ∈ hTbl := hIn (List.mem_of_getElem? (i := 0) (by decide +kernel)) (by decide +kernel)
theorem qw_1 : (Cond.selects RX4 yX4_bundlesGiven yX4_bundlesGiven) ∈ hTbl := hIn (List.mem_of_getElem? (i := 1) (by decide +kernel)) (by decide +kernel)
theorem qw_2 : (Cond.selects "java/lang/Throwable" ⟨"java/lang/Throwable", "fillInStackTrace", "(I)Ljava/lang/Throwable;"⟩ ⟨"java/lang/Throwable", "fillInStackTrace", "(I)Ljava/lang/Throwable;"⟩) ∈ hTbl := hIn (List.mem_of_getElem? (i := 2) (by decide +kernel)) (by decide +kernel)
theorem qw_3 : (Cond.selects RX4 yX4_herbNumbered yX4_herbNumbered) ∈ hTbl := hIn (List.mem_of_getElem? (i := 3) (by decide +kernel)) (by decide +kernel)
theorem qw_4 : (Cond.selects RX1 yX1_isWetterThan yX1_isWetterThan) ∈ hTbl := hIn (List.mem_of_getElem? (i := 4) (by decide +kernel)) (by decide +kernel)
theorem qw_5 : (Cond.selects RJx4a65c yJx4a65c_add_72be8 yJx4a65c_add_72be8) ∈ hTbl := hIn (List.mem_of_getElem? (i := 5) (by decide +kernel)) (by decide +kernel)
theorem qw_6 : (Cond.selects RJx4a65c yJx4a65c_grow_d5877 yJx4a65c_grow_d5877) ∈ hTbl := hIn (List.mem_of_getElem? (i := 6) (by decide +kernel)) (by decide +kernel)
theorem qw_7 : (Cond.selects RJx4a65c yJx4a65c_grow_92f84 yJx4a65c_grow_92f84) ∈ hTbl := hIn (List.mem_of_getElem? (i := 7) (by decide +kernel)) (by decide +kernel)
theorem qw_8 : (Cond.selects RX1 yX1_spreadsMould yX1_spreadsMould) ∈ hTbl := hIn (List.mem_of_getElem? (i := 8) (by decide +kernel)) (by decide +kernel)
theorem qw_9 : (Cond.selects RX4 yX4_scoreOfTrialBehind yX4_scoreOfTrialBehind) ∈ hTbl := hIn (List.mem_of_getElem? (i := 9) (by decide +kernel)) (by decide +kernel)
theorem qw_10 : (Cond.selects RX6 yX6_no yX6_no) ∈ hTbl := hIn (List.mem_of_getElem? (i := 10) (by decide +kernel)) (by decide +kernel)
theorem qw_11 : (Cond.selects RX6 yX6_isHerb yX6_isHerb) ∈ hTbl := hIn (List.mem_of_getElem? (i := 11) (by decide +kernel)) (by decide +kernel)
theorem qw_12 : (Cond.selects RX6 yX6_filled yX6_filled) ∈ hTbl := hIn (List.mem_of_getElem? (i := 12) (by decide +kernel)) (by decide +kernel)
theorem qw_13 : (Cond.selects RX6 yX6_fits yX6_fits) ∈ hTbl := hIn (List.mem_of_getElem? (i := 13) (by decide +kernel)) (by decide +kernel)
theorem qw_14 : (Cond.selects RX6 yX6_daysOn yX6_daysOn) ∈ hTbl := hIn (List.mem_of_getElem? (i := 14) (by decide +kernel)) (by decide +kernel)
theorem qw_15 : (Cond.selects RX6 yX6_dayOn yX6_dayOn) ∈ hTbl := hIn (List.mem_of_getElem? (i := 15) (by decide +kernel)) (by decide +kernel)
theorem qw_16 : (Cond.selects RX5 yX5_isWetter yX5_isWetter) ∈ hTbl := hIn (List.mem_of_getElem? (i := 16) (by decide +kernel)) (by decide +kernel)
theorem qw_17 : (Cond.selects RX5 yX5_isBad yX5_isBad) ∈ hTbl := hIn (List.mem_of_getElem? (i := 17) (by decide +kernel)) (by decide +kernel)
theorem qw_18 : (Cond.selects RX6 yX6_bundleTold yX6_bundleTold) ∈ hTbl := hIn (List.mem_of_getElem? (i := 18) (by decide +kernel)) (by decide +kernel)
theorem qw_19 : (Cond.selects RX6 yX6_herbTold yX6_herbTold) ∈ hTbl := hIn (List.mem_of_getElem? (i := 19) (by decide +kernel)) (by decide +kernel)
theorem qw_20 : (Cond.selects RX6 yX6_orderTold yX6_orderTold) ∈ hTbl := hIn (List.mem_of_getElem? (i := 20) (by decide +kernel)) (by decide +kernel)
theorem qw_21 : (Cond.selects RX6 yX6_counted yX6_counted) ∈ hTbl := hIn (List.mem_of_getElem? (i := 21) (by decide +kernel)) (by decide +kernel)
theorem qw_22 : (Cond.selects RX6 yX6_untilDry yX6_untilDry) ∈ hTbl := hIn (List.mem_of_getElem? (i := 22) (by decide +kernel)) (by decide +kernel)
theorem qw_23 : (Cond.selects RX6 yX6_bestString yX6_bestString) ∈ hTbl := hIn (List.mem_of_getElem? (i := 23) (by decide +kernel)) (by decide +kernel)
theorem qw_24 : (Cond.selects RX6 yX6_badBehind yX6_badBehind) ∈ hTbl := hIn (List.mem_of_getElem? (i := 24) (by decide +kernel)) (by decide +kernel)
theorem qw_25 : (Cond.initialized RL) ∈ hTbl := hIn (List.mem_of_getElem? (i := 25) (by decide +kernel)) (by decide +kernel)
theorem qw_26 : (Cond.initialized RX4) ∈ hTbl := hIn (List.mem_of_getElem? (i := 26) (by decide +kernel)) (by decide +kernel)
theorem qw_27 : (Cond.initialized RJxa1e45) ∈ hTbl := hIn (List.mem_of_getElem? (i := 27) (by decide +kernel)) (by decide +kernel)
theorem qw_28 : (Cond.initialized RJxc12de) ∈ hTbl := hIn (List.mem_of_getElem? (i := 28) (by decide +kernel)) (by decide +kernel)
theorem qw_29 : (Cond.initialized RJx4a65c) ∈ hTbl := hIn (List.mem_of_getElem? (i := 29) (by decide +kernel)) (by decide +kernel)
theorem qw_30 : (Cond.initialized RX3) ∈ hTbl := hIn (List.mem_of_getElem? (i := 30) (by decide +kernel)) (by decide +kernel)
theorem qw_31 : (Cond.initialized RX1) ∈ hTbl := hIn (List.mem_of_getElem? (i := 31) (by decide +kernel)) (by decide +kernel)
theorem qw_32 : (Cond.initialized RX6) ∈ hTbl := hIn (List.mem_of_getElem? (i := 32) (by decide +kernel)) (by decide +kernel)
theorem qw_33 : (Cond.initialized RX5) ∈ hTbl := hIn (List.mem_of_getElem? (i := 33) (by decide +kernel)) (by decide +kernel)
theorem qw_34 : (Cond.initialized "java/lang/Throwable") ∈ hTbl := hIn (List.mem_of_getElem? (i := 34) (by decide +kernel)) (by decide +kernel)
theorem qw_35 : (Cond.initialized "java/lang/Exception") ∈ hTbl := hIn (List.mem_of_getElem? (i := 35) (by decide +kernel)) (by decide +kernel)
theorem qw_36 : (Cond.initialized "java/lang/RuntimeException") ∈ hTbl := hIn (List.mem_of_getElem? (i := 36) (by decide +kernel)) (by decide +kernel)
theorem qw_37 : (Cond.initialized "java/lang/IllegalArgumentException") ∈ hTbl := hIn (List.mem_of_getElem? (i := 37) (by decide +kernel)) (by decide +kernel)
theorem qw_38 : (Cond.initialized "java/lang/IllegalStateException") ∈ hTbl := hIn (List.mem_of_getElem? (i := 38) (by decide +kernel)) (by decide +kernel)
theorem qw_39 : (Cond.initialized RX0) ∈ hTbl := hIn (List.mem_of_getElem? (i := 39) (by decide +kernel)) (by decide +kernel)
theorem qw_40 : (Cond.initialized RJ8) ∈ hTbl := hIn (List.mem_of_getElem? (i := 40) (by decide +kernel)) (by decide +kernel)
theorem qw_41 : (Cond.initialized RJ9) ∈ hTbl := hIn (List.mem_of_getElem? (i := 41) (by decide +kernel)) (by decide +kernel)
theorem qw_42 : (Cond.initialized RJ7) ∈ hTbl := hIn (List.mem_of_getElem? (i := 42) (by decide +kernel)) (by decide +kernel)
theorem qw_43 : (Cond.initialized RJ10) ∈ hTbl := hIn (List.mem_of_getElem? (i := 43) (by decide +kernel)) (by decide +kernel)
theorem qw_44 : (Cond.initialized "java/lang/IndexOutOfBoundsException") ∈ hTbl := hIn (List.mem_of_getElem? (i := 44) (by decide +kernel)) (by decide +kernel)
theorem qw_45 : (Cond.initialized RJ15) ∈ hTbl := hIn (List.mem_of_getElem? (i := 45) (by decide +kernel)) (by decide +kernel)
theorem qw_46 : (Cond.initialized RJ3) ∈ hTbl := hIn (List.mem_of_getElem? (i := 46) (by decide +kernel)) (by decide +kernel)
theorem qw_47 : (Cond.initialized RX2) ∈ hTbl := hIn (List.mem_of_getElem? (i := 47) (by decide +kernel)) (by decide +kernel)
theorem qw_48 : (Cond.classLink RL 8 RX4) ∈ hTbl := hIn (List.mem_of_getElem? (i := 48) (by decide +kernel)) (by decide +kernel)
theorem qw_49 : (Cond.instantiable RX4 6) ∈ hTbl := hIn (List.mem_of_getElem? (i := 49) (by decide +kernel)) (by decide +kernel)
theorem qw_50 : (Cond.methodLink RL 64 yX4_init) ∈ hTbl := hIn (List.mem_of_getElem? (i := 50) (by decide +kernel)) (by decide +kernel)
theorem qw_51 : (Cond.instanceMethod yX4_init) ∈ hTbl := hIn (List.mem_of_getElem? (i := 51) (by decide +kernel)) (by decide +kernel)
theorem qw_52 : (Cond.code yX4_init cX4_init 1 none) ∈ hTbl := hIn (List.mem_of_getElem? (i := 52) (by decide +kernel)) (by decide +kernel)
theorem qw_53 : (Cond.methodLink RX4 1 objectInit) ∈ hTbl := hIn (List.mem_of_getElem? (i := 53) (by decide +kernel)) (by decide +kernel)
theorem qw_54 : (Cond.instanceMethod objectInit) ∈ hTbl := hIn (List.mem_of_getElem? (i := 54) (by decide +kernel)) (by decide +kernel)
theorem qw_55 : (Cond.code objectInit ⟨#[0xb1]⟩ 1 none) ∈ hTbl := hIn (List.mem_of_getElem? (i := 55) (by decide +kernel)) (by decide +kernel)
theorem qw_56 : (Cond.classLink RX4 7 RJx4a65c) ∈ hTbl := hIn (List.mem_of_getElem? (i := 56) (by decide +kernel)) (by decide +kernel)
theorem qw_57 : (Cond.instantiable RJx4a65c 3) ∈ hTbl := hIn (List.mem_of_getElem? (i := 57) (by decide +kernel)) (by decide +kernel)
theorem qw_58 : (Cond.methodLink RX4 9 yJx4a65c_init_da8c8) ∈ hTbl := hIn (List.mem_of_getElem? (i := 58) (by decide +kernel)) (by decide +kernel)
theorem qw_59 : (Cond.instanceMethod yJx4a65c_init_da8c8) ∈ hTbl := hIn (List.mem_of_getElem? (i := 59) (by decide +kernel)) (by decide +kernel)
theorem qw_60 : (Cond.code yJx4a65c_init_da8c8 cJx4a65c_init_da8c8 1 none) ∈ hTbl := hIn (List.mem_of_getElem? (i := 60) (by decide +kernel)) (by decide +kernel)
theorem qw_61 : (Cond.methodLink RJx4a65c 1 yJxc12de_init_da8c8) ∈ hTbl := hIn (List.mem_of_getElem? (i := 61) (by decide +kernel)) (by decide +kernel)
theorem qw_62 : (Cond.instanceMethod yJxc12de_init_da8c8) ∈ hTbl := hIn (List.mem_of_getElem? (i := 62) (by decide +kernel)) (by decide +kernel)
theorem qw_63 : (Cond.code yJxc12de_init_da8c8 cJxc12de_init_da8c8 1 none) ∈ hTbl := hIn (List.mem_of_getElem? (i := 63) (by decide +kernel)) (by decide +kernel)
theorem qw_64 : (Cond.methodLink RJxc12de 1 yJxa1e45_init_da8c8) ∈ hTbl := hIn (List.mem_of_getElem? (i := 64) (by decide +kernel)) (by decide +kernel)
theorem qw_65 : (Cond.instanceMethod yJxa1e45_init_da8c8) ∈ hTbl := hIn (List.mem_of_getElem? (i := 65) (by decide +kernel)) (by decide +kernel)
theorem qw_66 : (Cond.code yJxa1e45_init_da8c8 cJxa1e45_init_da8c8 1 none) ∈ hTbl := hIn (List.mem_of_getElem? (i := 66) (by decide +kernel)) (by decide +kernel)
theorem qw_67 : (Cond.methodLink RJxa1e45 1 objectInit) ∈ hTbl := hIn (List.mem_of_getElem? (i := 67) (by decide +kernel)) (by decide +kernel)
theorem qw_68 : (Cond.fieldLink RJx4a65c 39 RJx4a65c "DEFAULTCAPACITY_EMPTY_ELEMENTDATA" "[Ljava/lang/Object;") ∈ hTbl := hIn (List.mem_of_getElem? (i := 68) (by decide +kernel)) (by decide +kernel)
theorem qw_70 : (Cond.fieldLink RJx4a65c 9 RJx4a65c "elementData" "[Ljava/lang/Object;") ∈ hTbl := hIn (List.mem_of_getElem? (i := 70) (by decide +kernel)) (by decide +kernel)
theorem qw_71 : (Cond.fieldLink RJx4a65c 48 RJx4a65c "size" "I") ∈ hTbl := hIn (List.mem_of_getElem? (i := 71) (by decide +kernel)) (by decide +kernel)
theorem qw_72 : (Cond.fieldLink RJxc12de 7 RJxc12de "modCount" "I") ∈ hTbl := hIn (List.mem_of_getElem? (i := 72) (by decide +kernel)) (by decide +kernel)
theorem qw_73 : (Cond.fieldLink RJx4a65c 63 RJx4a65c "modCount" "I") ∈ hTbl := hIn (List.mem_of_getElem? (i := 73) (by decide +kernel)) (by decide +kernel)
theorem qw_74 : (Cond.sameField RJx4a65c RJxc12de "modCount" "I") ∈ hTbl := hIn (List.mem_of_getElem? (i := 74) (by decide +kernel)) (by decide +kernel)
theorem qw_82 : (Cond.classLink RX4 19 RX3) ∈ hTbl := hIn (List.mem_of_getElem? (i := 82) (by decide +kernel)) (by decide +kernel)
theorem qw_83 : (Cond.instantiable RX3 1) ∈ hTbl := hIn (List.mem_of_getElem? (i := 83) (by decide +kernel)) (by decide +kernel)
theorem qw_84 : (Cond.methodLink RX4 21 yX3_init) ∈ hTbl := hIn (List.mem_of_getElem? (i := 84) (by decide +kernel)) (by decide +kernel)
theorem qw_85 : (Cond.instanceMethod yX3_init) ∈ hTbl := hIn (List.mem_of_getElem? (i := 85) (by decide +kernel)) (by decide +kernel)
theorem qw_86 : (Cond.code yX3_init cX3_init 5 none) ∈ hTbl := hIn (List.mem_of_getElem? (i := 86) (by decide +kernel)) (by decide +kernel)
theorem qw_87 : (Cond.methodLink RX3 3 objectInit) ∈ hTbl := hIn (List.mem_of_getElem? (i := 87) (by decide +kernel)) (by decide +kernel)
theorem qw_88 : (Cond.classLink RX3 9 RX1) ∈ hTbl := hIn (List.mem_of_getElem? (i := 88) (by decide +kernel)) (by decide +kernel)
theorem qw_89 : (Cond.arrayOver (FieldType.object RX1)) ∈ lw_tbl := List.mem_of_getElem? (i := 89) (by decide +kernel)
theorem qw_90 : (Cond.instantiable RX1 10) ∈ hTbl := hIn (List.mem_of_getElem? (i := 90) (by decide +kernel)) (by decide +kernel)
theorem qw_91 : (Cond.methodLink RX3 17 yX1_init) ∈ hTbl := hIn (List.mem_of_getElem? (i := 91) (by decide +kernel)) (by decide +kernel)
theorem qw_92 : (Cond.instanceMethod yX1_init) ∈ hTbl := hIn (List.mem_of_getElem? (i := 92) (by decide +kernel)) (by decide +kernel)
theorem qw_93 : (Cond.code yX1_init cX1_init 2 none) ∈ hTbl := hIn (List.mem_of_getElem? (i := 93) (by decide +kernel)) (by decide +kernel)
theorem qw_94 : (Cond.methodLink RX1 3 objectInit) ∈ hTbl := hIn (List.mem_of_getElem? (i := 94) (by decide +kernel)) (by decide +kernel)
theorem qw_95 : (Cond.fieldLink RX1 9 RX1 "string" "I") ∈ hTbl := hIn (List.mem_of_getElem? (i := 95) (by decide +kernel)) (by decide +kernel)
theorem qw_96 : (Cond.fieldLink RX3 35 RX1 "string" "I") ∈ hTbl := hIn (List.mem_of_getElem? (i := 96) (by decide +kernel)) (by decide +kernel)
theorem qw_97 : (Cond.fieldLink RX3 20 RX1 "before" "LHerbLoft$Hook;") ∈ hTbl := hIn (List.mem_of_getElem? (i := 97) (by decide +kernel)) (by decide +kernel)
theorem qw_98 : (Cond.fieldLink RX1 49 RX1 "before" "LHerbLoft$Hook;") ∈ hTbl := hIn (List.mem_of_getElem? (i := 98) (by decide +kernel)) (by decide +kernel)
theorem qw_99 : (Cond.fieldLink RX3 24 RX1 "after" "LHerbLoft$Hook;") ∈ hTbl := hIn (List.mem_of_getElem? (i := 99) (by decide +kernel)) (by decide +kernel)
theorem qw_100 : (Cond.fieldLink RX1 57 RX1 "after" "LHerbLoft$Hook;") ∈ hTbl := hIn (List.mem_of_getElem? (i := 100) (by decide +kernel)) (by decide +kernel)
theorem qw_101 : (Cond.fieldLink RX1 15 RX1 "herb" "LHerbLoft$Herb;") ∈ hTbl := hIn (List.mem_of_getElem? (i := 101) (by decide +kernel)) (by decide +kernel)
theorem qw_102 : (Cond.fieldLink RX1 22 RX1 "front" "I") ∈ hTbl := hIn (List.mem_of_getElem? (i := 102) (by decide +kernel)) (by decide +kernel)
theorem qw_103 : (Cond.fieldLink RX1 25 RX1 "back" "I") ∈ hTbl := hIn (List.mem_of_getElem? (i := 103) (by decide +kernel)) (by decide +kernel)
theorem qw_104 : (Cond.fieldLink RX1 42 RX1 "wetDays" "I") ∈ hTbl := hIn (List.mem_of_getElem? (i := 104) (by decide +kernel)) (by decide +kernel)
theorem qw_105 : (Cond.fieldLink RX1 19 RX1 "mould" "I") ∈ hTbl := hIn (List.mem_of_getElem? (i := 105) (by decide +kernel)) (by decide +kernel)
theorem qw_106 : (Cond.fieldLink RX1 78 RX1 "force" "I") ∈ hTbl := hIn (List.mem_of_getElem? (i := 106) (by decide +kernel)) (by decide +kernel)
theorem qw_107 : (Cond.fieldLink RX1 84 RX1 "besideSpreading" "Z") ∈ hTbl := hIn (List.mem_of_getElem? (i := 107) (by decide +kernel)) (by decide +kernel)
theorem qw_129 : (Cond.fieldLink RX3 11 RX3 "hooks" "[LHerbLoft$Hook;") ∈ hTbl := hIn (List.mem_of_getElem? (i := 129) (by decide +kernel)) (by decide +kernel)
theorem qw_133 : (Cond.fieldLink RX4 10 RX4 "herbs" "Ljava/util/ArrayList;") ∈ hTbl := hIn (List.mem_of_getElem? (i := 133) (by decide +kernel)) (by decide +kernel)
theorem qw_134 : (Cond.fieldLink RX4 16 RX4 "orders" "Ljava/util/ArrayList;") ∈ hTbl := hIn (List.mem_of_getElem? (i := 134) (by decide +kernel)) (by decide +kernel)
theorem qw_135 : (Cond.fieldLink RX4 22 RX4 "rack" "LHerbLoft$Rack;") ∈ hTbl := hIn (List.mem_of_getElem? (i := 135) (by decide +kernel)) (by decide +kernel)
theorem qw_136 : (Cond.fieldLink RX4 26 RX4 "trial" "LHerbLoft$Rack;") ∈ hTbl := hIn (List.mem_of_getElem? (i := 136) (by decide +kernel)) (by decide +kernel)
theorem qw_137 : (Cond.fieldLink RX4 29 RX4 "window" "I") ∈ hTbl := hIn (List.mem_of_getElem? (i := 137) (by decide +kernel)) (by decide +kernel)
theorem qw_138 : (Cond.fieldLink RX4 33 RX4 "day" "I") ∈ hTbl := hIn (List.mem_of_getElem? (i := 138) (by decide +kernel)) (by decide +kernel)
theorem qw_152 : (Cond.methodLink RL 99 yX4_fill) ∈ hTbl := hIn (List.mem_of_getElem? (i := 152) (by decide +kernel)) (by decide +kernel)
theorem qw_153 : (Cond.instanceMethod yX4_fill) ∈ hTbl := hIn (List.mem_of_getElem? (i := 153) (by decide +kernel)) (by decide +kernel)
theorem qw_154 : (Cond.selects RX4 yX4_fill yX4_fill) ∈ hTbl := hIn (List.mem_of_getElem? (i := 154) (by decide +kernel)) (by decide +kernel)
theorem qw_155 : (Cond.code yX4_fill cX4_fill 3 (some FieldType.int)) ∈ hTbl := hIn (List.mem_of_getElem? (i := 155) (by decide +kernel)) (by decide +kernel)
theorem qw_156 : (Cond.methodLink RX4 49 yJx4a65c_size_8abf5) ∈ hTbl := hIn (List.mem_of_getElem? (i := 156) (by decide +kernel)) (by decide +kernel)
theorem qw_157 : (Cond.instanceMethod yJx4a65c_size_8abf5) ∈ hTbl := hIn (List.mem_of_getElem? (i := 157) (by decide +kernel)) (by decide +kernel)
theorem qw_158 : (Cond.selects RJx4a65c yJx4a65c_size_8abf5 yJx4a65c_size_8abf5) ∈ hTbl := hIn (List.mem_of_getElem? (i := 158) (by decide +kernel)) (by decide +kernel)
theorem qw_159 : (Cond.code yJx4a65c_size_8abf5 cJx4a65c_size_8abf5 1 (some FieldType.int)) ∈ hTbl := hIn (List.mem_of_getElem? (i := 159) (by decide +kernel)) (by decide +kernel)
theorem qw_160 : (Cond.methodLink RX4 137 yJx4a65c_get_915e3) ∈ hTbl := hIn (List.mem_of_getElem? (i := 160) (by decide +kernel)) (by decide +kernel)
theorem qw_161 : (Cond.instanceMethod yJx4a65c_get_915e3) ∈ hTbl := hIn (List.mem_of_getElem? (i := 161) (by decide +kernel)) (by decide +kernel)
theorem qw_162 : (Cond.selects RJx4a65c yJx4a65c_get_915e3 yJx4a65c_get_915e3) ∈ hTbl := hIn (List.mem_of_getElem? (i := 162) (by decide +kernel)) (by decide +kernel)
theorem qw_163 : (Cond.code yJx4a65c_get_915e3 cJx4a65c_get_915e3 2 (some (FieldType.object "java/lang/Object"))) ∈ hTbl := hIn (List.mem_of_getElem? (i := 163) (by decide +kernel)) (by decide +kernel)
theorem qw_164 : (Cond.methodLink RJx4a65c 118 yJ15_checkIndex_7cf53) ∈ hTbl := hIn (List.mem_of_getElem? (i := 164) (by decide +kernel)) (by decide +kernel)
theorem qw_165 : (Cond.static yJ15_checkIndex_7cf53) ∈ hTbl := hIn (List.mem_of_getElem? (i := 165) (by decide +kernel)) (by decide +kernel)
theorem qw_166 : (Cond.code yJ15_checkIndex_7cf53 cJ15_checkIndex_7cf53 2 (some FieldType.int)) ∈ hTbl := hIn (List.mem_of_getElem? (i := 166) (by decide +kernel)) (by decide +kernel)
theorem qw_167 : (Cond.methodLink RJ15 105 yJ3_checkIndex_8e157) ∈ hTbl := hIn (List.mem_of_getElem? (i := 167) (by decide +kernel)) (by decide +kernel)
theorem qw_168 : (Cond.static yJ3_checkIndex_8e157) ∈ hTbl := hIn (List.mem_of_getElem? (i := 168) (by decide +kernel)) (by decide +kernel)
theorem qw_169 : (Cond.code yJ3_checkIndex_8e157 cJ3_checkIndex_8e157 3 (some FieldType.int)) ∈ hTbl := hIn (List.mem_of_getElem? (i := 169) (by decide +kernel)) (by decide +kernel)
theorem qw_170 : (Cond.methodLink RJx4a65c 123 yJx4a65c_elementData_915e3) ∈ hTbl := hIn (List.mem_of_getElem? (i := 170) (by decide +kernel)) (by decide +kernel)
theorem qw_171 : (Cond.instanceMethod yJx4a65c_elementData_915e3) ∈ hTbl := hIn (List.mem_of_getElem? (i := 171) (by decide +kernel)) (by decide +kernel)
theorem qw_172 : (Cond.selects RJx4a65c yJx4a65c_elementData_915e3 yJx4a65c_elementData_915e3) ∈ hTbl := hIn (List.mem_of_getElem? (i := 172) (by decide +kernel)) (by decide +kernel)
theorem qw_173 : (Cond.code yJx4a65c_elementData_915e3 cJx4a65c_elementData_915e3 2 (some (FieldType.object "java/lang/Object"))) ∈ hTbl := hIn (List.mem_of_getElem? (i := 173) (by decide +kernel)) (by decide +kernel)
theorem qw_174 : (Cond.classLink RX4 132 RX2) ∈ hTbl := hIn (List.mem_of_getElem? (i := 174) (by decide +kernel)) (by decide +kernel)
theorem qw_175 : (Cond.methodLink RX4 141 yX3_giveTo) ∈ hTbl := hIn (List.mem_of_getElem? (i := 175) (by decide +kernel)) (by decide +kernel)
theorem qw_176 : (Cond.instanceMethod yX3_giveTo) ∈ hTbl := hIn (List.mem_of_getElem? (i := 176) (by decide +kernel)) (by decide +kernel)
theorem qw_177 : (Cond.selects RX3 yX3_giveTo yX3_giveTo) ∈ hTbl := hIn (List.mem_of_getElem? (i := 177) (by decide +kernel)) (by decide +kernel)
theorem qw_178 : (Cond.code yX3_giveTo cX3_giveTo 6 (some FieldType.int)) ∈ hTbl := hIn (List.mem_of_getElem? (i := 178) (by decide +kernel)) (by decide +kernel)
theorem qw_179 : (Cond.methodLink RX3 53 yX3_hookAt) ∈ hTbl := hIn (List.mem_of_getElem? (i := 179) (by decide +kernel)) (by decide +kernel)
theorem qw_180 : (Cond.instanceMethod yX3_hookAt) ∈ hTbl := hIn (List.mem_of_getElem? (i := 180) (by decide +kernel)) (by decide +kernel)
theorem qw_181 : (Cond.selects RX3 yX3_hookAt yX3_hookAt) ∈ hTbl := hIn (List.mem_of_getElem? (i := 181) (by decide +kernel)) (by decide +kernel)
theorem qw_182 : (Cond.code yX3_hookAt cX3_hookAt 3 (some (FieldType.object RX1))) ∈ hTbl := hIn (List.mem_of_getElem? (i := 182) (by decide +kernel)) (by decide +kernel)
theorem qw_183 : (Cond.methodLinkNest RX3 27 yX4_isWithin RX4) ∈ hNest := hInN (List.mem_of_getElem? (i := 183) (by decide +kernel)) (by decide +kernel)
theorem qw_184 : (Cond.static yX4_isWithin) ∈ hTbl := hIn (List.mem_of_getElem? (i := 184) (by decide +kernel)) (by decide +kernel)
theorem qw_185 : (Cond.code yX4_isWithin cX4_isWithin 3 (some FieldType.boolean)) ∈ hTbl := hIn (List.mem_of_getElem? (i := 185) (by decide +kernel)) (by decide +kernel)
theorem qw_186 : (Cond.methodLink RX3 57 yX2_needsSome) ∈ hTbl := hIn (List.mem_of_getElem? (i := 186) (by decide +kernel)) (by decide +kernel)
theorem qw_187 : (Cond.instanceMethod yX2_needsSome) ∈ hTbl := hIn (List.mem_of_getElem? (i := 187) (by decide +kernel)) (by decide +kernel)
theorem qw_188 : (Cond.selects RX2 yX2_needsSome yX2_needsSome) ∈ hTbl := hIn (List.mem_of_getElem? (i := 188) (by decide +kernel)) (by decide +kernel)
theorem qw_189 : (Cond.code yX2_needsSome cX2_needsSome 1 (some FieldType.boolean)) ∈ hTbl := hIn (List.mem_of_getElem? (i := 189) (by decide +kernel)) (by decide +kernel)
theorem qw_190 : (Cond.methodLink RX3 62 yX1_fits) ∈ hTbl := hIn (List.mem_of_getElem? (i := 190) (by decide +kernel)) (by decide +kernel)
theorem qw_191 : (Cond.instanceMethod yX1_fits) ∈ hTbl := hIn (List.mem_of_getElem? (i := 191) (by decide +kernel)) (by decide +kernel)
theorem qw_192 : (Cond.selects RX1 yX1_fits yX1_fits) ∈ hTbl := hIn (List.mem_of_getElem? (i := 192) (by decide +kernel)) (by decide +kernel)
theorem qw_193 : (Cond.code yX1_fits cX1_fits 2 (some FieldType.boolean)) ∈ hTbl := hIn (List.mem_of_getElem? (i := 193) (by decide +kernel)) (by decide +kernel)
theorem qw_194 : (Cond.methodLink RX1 31 yX1_isTakenBy) ∈ hTbl := hIn (List.mem_of_getElem? (i := 194) (by decide +kernel)) (by decide +kernel)
theorem qw_195 : (Cond.instanceMethod yX1_isTakenBy) ∈ hTbl := hIn (List.mem_of_getElem? (i := 195) (by decide +kernel)) (by decide +kernel)
theorem qw_196 : (Cond.selects RX1 yX1_isTakenBy yX1_isTakenBy) ∈ hTbl := hIn (List.mem_of_getElem? (i := 196) (by decide +kernel)) (by decide +kernel)
theorem qw_197 : (Cond.code yX1_isTakenBy cX1_isTakenBy 2 (some FieldType.boolean)) ∈ hTbl := hIn (List.mem_of_getElem? (i := 197) (by decide +kernel)) (by decide +kernel)
theorem qw_198 : (Cond.methodLink RX1 35 yX1_wetness) ∈ hTbl := hIn (List.mem_of_getElem? (i := 198) (by decide +kernel)) (by decide +kernel)
theorem qw_199 : (Cond.instanceMethod yX1_wetness) ∈ hTbl := hIn (List.mem_of_getElem? (i := 199) (by decide +kernel)) (by decide +kernel)
theorem qw_200 : (Cond.selects RX1 yX1_wetness yX1_wetness) ∈ hTbl := hIn (List.mem_of_getElem? (i := 200) (by decide +kernel)) (by decide +kernel)
theorem qw_201 : (Cond.code yX1_wetness cX1_wetness 1 (some FieldType.int)) ∈ hTbl := hIn (List.mem_of_getElem? (i := 201) (by decide +kernel)) (by decide +kernel)
theorem qw_202 : (Cond.methodLink RX3 66 yX1_clear) ∈ hTbl := hIn (List.mem_of_getElem? (i := 202) (by decide +kernel)) (by decide +kernel)
theorem qw_203 : (Cond.instanceMethod yX1_clear) ∈ hTbl := hIn (List.mem_of_getElem? (i := 203) (by decide +kernel)) (by decide +kernel)
theorem qw_204 : (Cond.selects RX1 yX1_clear yX1_clear) ∈ hTbl := hIn (List.mem_of_getElem? (i := 204) (by decide +kernel)) (by decide +kernel)
theorem qw_205 : (Cond.code yX1_clear cX1_clear 1 none) ∈ hTbl := hIn (List.mem_of_getElem? (i := 205) (by decide +kernel)) (by decide +kernel)
theorem qw_206 : (Cond.methodLink RX1 45 yX1_receiveNew) ∈ hTbl := hIn (List.mem_of_getElem? (i := 206) (by decide +kernel)) (by decide +kernel)
theorem qw_207 : (Cond.instanceMethod yX1_receiveNew) ∈ hTbl := hIn (List.mem_of_getElem? (i := 207) (by decide +kernel)) (by decide +kernel)
theorem qw_208 : (Cond.selects RX1 yX1_receiveNew yX1_receiveNew) ∈ hTbl := hIn (List.mem_of_getElem? (i := 208) (by decide +kernel)) (by decide +kernel)
theorem qw_209 : (Cond.code yX1_receiveNew cX1_receiveNew 3 none) ∈ hTbl := hIn (List.mem_of_getElem? (i := 209) (by decide +kernel)) (by decide +kernel)
theorem qw_210 : (Cond.methodLink RL 127 yX4_mean) ∈ hTbl := hIn (List.mem_of_getElem? (i := 210) (by decide +kernel)) (by decide +kernel)
theorem qw_211 : (Cond.instanceMethod yX4_mean) ∈ hTbl := hIn (List.mem_of_getElem? (i := 211) (by decide +kernel)) (by decide +kernel)
theorem qw_212 : (Cond.selects RX4 yX4_mean yX4_mean) ∈ hTbl := hIn (List.mem_of_getElem? (i := 212) (by decide +kernel)) (by decide +kernel)
theorem qw_213 : (Cond.code yX4_mean cX4_mean 2 (some FieldType.double)) ∈ hTbl := hIn (List.mem_of_getElem? (i := 213) (by decide +kernel)) (by decide +kernel)
theorem qw_214 : (Cond.methodLink RX4 96 yX3_bundles) ∈ hTbl := hIn (List.mem_of_getElem? (i := 214) (by decide +kernel)) (by decide +kernel)
theorem qw_215 : (Cond.instanceMethod yX3_bundles) ∈ hTbl := hIn (List.mem_of_getElem? (i := 215) (by decide +kernel)) (by decide +kernel)
theorem qw_216 : (Cond.selects RX3 yX3_bundles yX3_bundles) ∈ hTbl := hIn (List.mem_of_getElem? (i := 216) (by decide +kernel)) (by decide +kernel)
theorem qw_217 : (Cond.code yX3_bundles cX3_bundles 6 (some FieldType.int)) ∈ hTbl := hIn (List.mem_of_getElem? (i := 217) (by decide +kernel)) (by decide +kernel)
theorem qw_218 : (Cond.methodLink RX3 39 yX1_isTaken) ∈ hTbl := hIn (List.mem_of_getElem? (i := 218) (by decide +kernel)) (by decide +kernel)
theorem qw_219 : (Cond.instanceMethod yX1_isTaken) ∈ hTbl := hIn (List.mem_of_getElem? (i := 219) (by decide +kernel)) (by decide +kernel)
theorem qw_220 : (Cond.selects RX1 yX1_isTaken yX1_isTaken) ∈ hTbl := hIn (List.mem_of_getElem? (i := 220) (by decide +kernel)) (by decide +kernel)
theorem qw_221 : (Cond.code yX1_isTaken cX1_isTaken 1 (some FieldType.boolean)) ∈ hTbl := hIn (List.mem_of_getElem? (i := 221) (by decide +kernel)) (by decide +kernel)
theorem qw_222 : (Cond.methodLink RX4 205 yX3_sumOfWetness) ∈ hTbl := hIn (List.mem_of_getElem? (i := 222) (by decide +kernel)) (by decide +kernel)
theorem qw_223 : (Cond.instanceMethod yX3_sumOfWetness) ∈ hTbl := hIn (List.mem_of_getElem? (i := 223) (by decide +kernel)) (by decide +kernel)
theorem qw_224 : (Cond.selects RX3 yX3_sumOfWetness yX3_sumOfWetness) ∈ hTbl := hIn (List.mem_of_getElem? (i := 224) (by decide +kernel)) (by decide +kernel)
theorem qw_225 : (Cond.code yX3_sumOfWetness cX3_sumOfWetness 6 (some FieldType.int)) ∈ hTbl := hIn (List.mem_of_getElem? (i := 225) (by decide +kernel)) (by decide +kernel)
theorem qw_226 : (Cond.methodLink RX3 75 yX1_wetness) ∈ hTbl := hIn (List.mem_of_getElem? (i := 226) (by decide +kernel)) (by decide +kernel)
theorem qw_227 : (Cond.methodLink RL 132 yX4_digest) ∈ hTbl := hIn (List.mem_of_getElem? (i := 227) (by decide +kernel)) (by decide +kernel)
theorem qw_228 : (Cond.instanceMethod yX4_digest) ∈ hTbl := hIn (List.mem_of_getElem? (i := 228) (by decide +kernel)) (by decide +kernel)
theorem qw_229 : (Cond.selects RX4 yX4_digest yX4_digest) ∈ hTbl := hIn (List.mem_of_getElem? (i := 229) (by decide +kernel)) (by decide +kernel)
theorem qw_230 : (Cond.code yX4_digest cX4_digest 6 (some FieldType.long)) ∈ hTbl := hIn (List.mem_of_getElem? (i := 230) (by decide +kernel)) (by decide +kernel)
theorem qw_231 : (Cond.constantLong RX4 222 (1831 : Int64)) ∈ hTbl := hIn (List.mem_of_getElem? (i := 231) (by decide +kernel)) (by decide +kernel)
theorem qw_232 : (Cond.constantLong RX4 224 (31 : Int64)) ∈ hTbl := hIn (List.mem_of_getElem? (i := 232) (by decide +kernel)) (by decide +kernel)
theorem qw_233 : (Cond.methodLink RX4 226 yX4_count) ∈ hTbl := hIn (List.mem_of_getElem? (i := 233) (by decide +kernel)) (by decide +kernel)
theorem qw_234 : (Cond.instanceMethod yX4_count) ∈ hTbl := hIn (List.mem_of_getElem? (i := 234) (by decide +kernel)) (by decide +kernel)
theorem qw_235 : (Cond.selects RX4 yX4_count yX4_count) ∈ hTbl := hIn (List.mem_of_getElem? (i := 235) (by decide +kernel)) (by decide +kernel)
theorem qw_236 : (Cond.code yX4_count cX4_count 2 (some FieldType.int)) ∈ hTbl := hIn (List.mem_of_getElem? (i := 236) (by decide +kernel)) (by decide +kernel)
theorem qw_237 : (Cond.methodLink RX4 152 yX3_mouldyBundles) ∈ hTbl := hIn (List.mem_of_getElem? (i := 237) (by decide +kernel)) (by decide +kernel)
theorem qw_238 : (Cond.instanceMethod yX3_mouldyBundles) ∈ hTbl := hIn (List.mem_of_getElem? (i := 238) (by decide +kernel)) (by decide +kernel)
theorem qw_239 : (Cond.selects RX3 yX3_mouldyBundles yX3_mouldyBundles) ∈ hTbl := hIn (List.mem_of_getElem? (i := 239) (by decide +kernel)) (by decide +kernel)
theorem qw_240 : (Cond.code yX3_mouldyBundles cX3_mouldyBundles 6 (some FieldType.int)) ∈ hTbl := hIn (List.mem_of_getElem? (i := 240) (by decide +kernel)) (by decide +kernel)
theorem qw_241 : (Cond.methodLink RX3 72 yX1_isMouldy) ∈ hTbl := hIn (List.mem_of_getElem? (i := 241) (by decide +kernel)) (by decide +kernel)
theorem qw_242 : (Cond.instanceMethod yX1_isMouldy) ∈ hTbl := hIn (List.mem_of_getElem? (i := 242) (by decide +kernel)) (by decide +kernel)
theorem qw_243 : (Cond.selects RX1 yX1_isMouldy yX1_isMouldy) ∈ hTbl := hIn (List.mem_of_getElem? (i := 243) (by decide +kernel)) (by decide +kernel)
theorem qw_244 : (Cond.code yX1_isMouldy cX1_isMouldy 1 (some FieldType.boolean)) ∈ hTbl := hIn (List.mem_of_getElem? (i := 244) (by decide +kernel)) (by decide +kernel)
theorem qw_245 : (Cond.methodLink RX4 199 yX4_ordersThatGotAll) ∈ hTbl := hIn (List.mem_of_getElem? (i := 245) (by decide +kernel)) (by decide +kernel)
theorem qw_247 : (Cond.instanceMethod yX4_ordersThatGotAll) ∈ hTbl := hIn (List.mem_of_getElem? (i := 247) (by decide +kernel)) (by decide +kernel)
theorem qw_248 : (Cond.code yX4_ordersThatGotAll cX4_ordersThatGotAll 3 (some FieldType.int)) ∈ hTbl := hIn (List.mem_of_getElem? (i := 248) (by decide +kernel)) (by decide +kernel)
theorem qw_249 : (Cond.methodLink RX4 239 yX2_needsSome) ∈ hTbl := hIn (List.mem_of_getElem? (i := 249) (by decide +kernel)) (by decide +kernel)
theorem qw_250 : (Cond.methodLink RX4 202 yX4_bundlesGiven) ∈ hTbl := hIn (List.mem_of_getElem? (i := 250) (by decide +kernel)) (by decide +kernel)
theorem qw_252 : (Cond.instanceMethod yX4_bundlesGiven) ∈ hTbl := hIn (List.mem_of_getElem? (i := 252) (by decide +kernel)) (by decide +kernel)
theorem qw_253 : (Cond.code yX4_bundlesGiven cX4_bundlesGiven 3 (some FieldType.int)) ∈ hTbl := hIn (List.mem_of_getElem? (i := 253) (by decide +kernel)) (by decide +kernel)
theorem qw_254 : (Cond.classLink RX4 71 "java/lang/IndexOutOfBoundsException") ∈ hTbl := hIn (List.mem_of_getElem? (i := 254) (by decide +kernel)) (by decide +kernel)
theorem qw_255 : (Cond.instantiable "java/lang/IndexOutOfBoundsException" 6) ∈ hTbl := hIn (List.mem_of_getElem? (i := 255) (by decide +kernel)) (by decide +kernel)
theorem qw_256 : (Cond.castable "java/lang/IndexOutOfBoundsException" "java/lang/IndexOutOfBoundsException") ∈ hNest := hInN (List.mem_of_getElem? (i := 256) (by decide +kernel)) (by decide +kernel)
theorem qw_257 : (Cond.declares ⟨"java/lang/RuntimeException", "<init>", "()V"⟩) ∈ hNest := hInN (List.mem_of_getElem? (i := 257) (by decide +kernel)) (by decide +kernel)
theorem qw_258 : (Cond.declares ⟨"java/lang/RuntimeException", "<init>", "(Ljava/lang/String;)V"⟩) ∈ hNest := hInN (List.mem_of_getElem? (i := 258) (by decide +kernel)) (by decide +kernel)
theorem qw_259 : (Cond.declares ⟨"java/lang/Exception", "<init>", "()V"⟩) ∈ hNest := hInN (List.mem_of_getElem? (i := 259) (by decide +kernel)) (by decide +kernel)
theorem qw_260 : (Cond.declares ⟨"java/lang/Exception", "<init>", "(Ljava/lang/String;)V"⟩) ∈ hNest := hInN (List.mem_of_getElem? (i := 260) (by decide +kernel)) (by decide +kernel)
theorem qw_261 : (Cond.declares ⟨"java/lang/Throwable", "<init>", "()V"⟩) ∈ hNest := hInN (List.mem_of_getElem? (i := 261) (by decide +kernel)) (by decide +kernel)
theorem qw_262 : (Cond.declares ⟨"java/lang/Throwable", "<init>", "(Ljava/lang/String;)V"⟩) ∈ hNest := hInN (List.mem_of_getElem? (i := 262) (by decide +kernel)) (by decide +kernel)
theorem qw_263 : (Cond.selects "java/lang/IndexOutOfBoundsException" ⟨"java/lang/Throwable", "fillInStackTrace", "(I)Ljava/lang/Throwable;"⟩ ⟨"java/lang/Throwable", "fillInStackTrace", "(I)Ljava/lang/Throwable;"⟩) ∈ hTbl := hIn (List.mem_of_getElem? (i := 263) (by decide +kernel)) (by decide +kernel)
theorem qw_264 : (Cond.selects "java/lang/IndexOutOfBoundsException" ⟨"java/lang/Throwable", "fillInStackTrace", "()Ljava/lang/Throwable;"⟩ ⟨"java/lang/Throwable", "fillInStackTrace", "()Ljava/lang/Throwable;"⟩) ∈ hTbl := hIn (List.mem_of_getElem? (i := 264) (by decide +kernel)) (by decide +kernel)
theorem qw_275 : (Cond.fieldLink "java/lang/Throwable" 198 "java/lang/Throwable" "backtrace" "Ljava/lang/Object;") ∈ hTbl := hIn (List.mem_of_getElem? (i := 275) (by decide +kernel)) (by decide +kernel)
theorem qw_277 : (Cond.instanceMethod ⟨"java/lang/Throwable", "<init>", "()V"⟩) ∈ hTbl := hIn (List.mem_of_getElem? (i := 277) (by decide +kernel)) (by decide +kernel)
theorem qw_278 : (Cond.code ⟨"java/lang/Throwable", "<init>", "()V"⟩ prog_20_method_1_code 1 none) ∈ hTbl := hIn (List.mem_of_getElem? (i := 278) (by decide +kernel)) (by decide +kernel)
theorem qw_279 : (Cond.methodLink "java/lang/Throwable" 1 objectInit) ∈ hTbl := hIn (List.mem_of_getElem? (i := 279) (by decide +kernel)) (by decide +kernel)
theorem qw_280 : (Cond.fieldLink "java/lang/Throwable" 13 "java/lang/Throwable" "UNASSIGNED_STACK" "[Ljava/lang/StackTraceElement;") ∈ hTbl := hIn (List.mem_of_getElem? (i := 280) (by decide +kernel)) (by decide +kernel)
theorem qw_282 : (Cond.fieldLink "java/lang/Throwable" 20 "java/lang/Throwable" "SUPPRESSED_SENTINEL" "Ljava/util/List;") ∈ hTbl := hIn (List.mem_of_getElem? (i := 282) (by decide +kernel)) (by decide +kernel)
theorem qw_284 : (Cond.methodLink "java/lang/Throwable" 27 ⟨"java/lang/Throwable", "fillInStackTrace", "()Ljava/lang/Throwable;"⟩) ∈ hTbl := hIn (List.mem_of_getElem? (i := 284) (by decide +kernel)) (by decide +kernel)
theorem qw_285 : (Cond.instanceMethod ⟨"java/lang/Throwable", "fillInStackTrace", "()Ljava/lang/Throwable;"⟩) ∈ hTbl := hIn (List.mem_of_getElem? (i := 285) (by decide +kernel)) (by decide +kernel)
theorem qw_287 : (Cond.selects "java/lang/IllegalArgumentException" ⟨"java/lang/Throwable", "fillInStackTrace", "()Ljava/lang/Throwable;"⟩ ⟨"java/lang/Throwable", "fillInStackTrace", "()Ljava/lang/Throwable;"⟩) ∈ hTbl := hIn (List.mem_of_getElem? (i := 287) (by decide +kernel)) (by decide +kernel)
theorem qw_288 : (Cond.selects "java/lang/IllegalStateException" ⟨"java/lang/Throwable", "fillInStackTrace", "()Ljava/lang/Throwable;"⟩ ⟨"java/lang/Throwable", "fillInStackTrace", "()Ljava/lang/Throwable;"⟩) ∈ hTbl := hIn (List.mem_of_getElem? (i := 288) (by decide +kernel)) (by decide +kernel)
theorem qw_290 : (Cond.methodLink "java/lang/Throwable" 202 ⟨"java/lang/Throwable", "fillInStackTrace", "(I)Ljava/lang/Throwable;"⟩) ∈ hTbl := hIn (List.mem_of_getElem? (i := 290) (by decide +kernel)) (by decide +kernel)
theorem qw_292 : (Cond.instanceMethod ⟨"java/lang/Throwable", "fillInStackTrace", "(I)Ljava/lang/Throwable;"⟩) ∈ hTbl := hIn (List.mem_of_getElem? (i := 292) (by decide +kernel)) (by decide +kernel)
theorem qw_293 : (Cond.instantiable "java/lang/Throwable" 6) ∈ hTbl := hIn (List.mem_of_getElem? (i := 293) (by decide +kernel)) (by decide +kernel)
theorem qw_294 : (Cond.native ⟨"java/lang/Throwable", "fillInStackTrace", "(I)Ljava/lang/Throwable;"⟩) ∈ hTbl := hIn (List.mem_of_getElem? (i := 294) (by decide +kernel)) (by decide +kernel)
theorem qw_295 : (Cond.stringRef RX4 208 "what is not 0 to 8") ∈ lw_tbl := List.mem_of_getElem? (i := 295) (by decide +kernel)
theorem qw_296 : (Cond.methodLink RX4 75 ⟨"java/lang/IndexOutOfBoundsException", "<init>", "(Ljava/lang/String;)V"⟩) ∈ hTbl := hIn (List.mem_of_getElem? (i := 296) (by decide +kernel)) (by decide +kernel)
theorem qw_297 : (Cond.instanceMethod ⟨"java/lang/IndexOutOfBoundsException", "<init>", "(Ljava/lang/String;)V"⟩) ∈ hTbl := hIn (List.mem_of_getElem? (i := 297) (by decide +kernel)) (by decide +kernel)
theorem qw_298 : (Cond.code ⟨"java/lang/IndexOutOfBoundsException", "<init>", "(Ljava/lang/String;)V"⟩ prog_14_method_2_code 2 none) ∈ hTbl := hIn (List.mem_of_getElem? (i := 298) (by decide +kernel)) (by decide +kernel)
theorem qw_299 : (Cond.methodLink "java/lang/IndexOutOfBoundsException" 7 ⟨"java/lang/RuntimeException", "<init>", "(Ljava/lang/String;)V"⟩) ∈ hTbl := hIn (List.mem_of_getElem? (i := 299) (by decide +kernel)) (by decide +kernel)
theorem qw_300 : (Cond.instanceMethod ⟨"java/lang/RuntimeException", "<init>", "(Ljava/lang/String;)V"⟩) ∈ hTbl := hIn (List.mem_of_getElem? (i := 300) (by decide +kernel)) (by decide +kernel)
theorem qw_301 : (Cond.code ⟨"java/lang/RuntimeException", "<init>", "(Ljava/lang/String;)V"⟩ prog_17_method_2_code 2 none) ∈ hTbl := hIn (List.mem_of_getElem? (i := 301) (by decide +kernel)) (by decide +kernel)
theorem qw_302 : (Cond.methodLink "java/lang/RuntimeException" 7 ⟨"java/lang/Exception", "<init>", "(Ljava/lang/String;)V"⟩) ∈ hTbl := hIn (List.mem_of_getElem? (i := 302) (by decide +kernel)) (by decide +kernel)
theorem qw_303 : (Cond.instanceMethod ⟨"java/lang/Exception", "<init>", "(Ljava/lang/String;)V"⟩) ∈ hTbl := hIn (List.mem_of_getElem? (i := 303) (by decide +kernel)) (by decide +kernel)
theorem qw_304 : (Cond.code ⟨"java/lang/Exception", "<init>", "(Ljava/lang/String;)V"⟩ prog_11_method_2_code 2 none) ∈ hTbl := hIn (List.mem_of_getElem? (i := 304) (by decide +kernel)) (by decide +kernel)
theorem qw_305 : (Cond.methodLink "java/lang/Exception" 7 ⟨"java/lang/Throwable", "<init>", "(Ljava/lang/String;)V"⟩) ∈ hTbl := hIn (List.mem_of_getElem? (i := 305) (by decide +kernel)) (by decide +kernel)
theorem qw_306 : (Cond.instanceMethod ⟨"java/lang/Throwable", "<init>", "(Ljava/lang/String;)V"⟩) ∈ hTbl := hIn (List.mem_of_getElem? (i := 306) (by decide +kernel)) (by decide +kernel)
theorem qw_307 : (Cond.code ⟨"java/lang/Throwable", "<init>", "(Ljava/lang/String;)V"⟩ prog_20_method_2_code 2 none) ∈ hTbl := hIn (List.mem_of_getElem? (i := 307) (by decide +kernel)) (by decide +kernel)
theorem qw_309 : (Cond.fieldLink "java/lang/Throwable" 31 "java/lang/Throwable" "detailMessage" "Ljava/lang/String;") ∈ hTbl := hIn (List.mem_of_getElem? (i := 309) (by decide +kernel)) (by decide +kernel)
theorem qw_310 : (Cond.fieldLink "java/lang/Throwable" 7 "java/lang/Throwable" "cause" "Ljava/lang/Throwable;") ∈ hTbl := hIn (List.mem_of_getElem? (i := 310) (by decide +kernel)) (by decide +kernel)
theorem qw_311 : (Cond.fieldLink "java/lang/Throwable" 17 "java/lang/Throwable" "stackTrace" "[Ljava/lang/StackTraceElement;") ∈ hTbl := hIn (List.mem_of_getElem? (i := 311) (by decide +kernel)) (by decide +kernel)
theorem qw_312 : (Cond.fieldLink "java/lang/Throwable" 24 "java/lang/Throwable" "suppressedExceptions" "Ljava/util/List;") ∈ hTbl := hIn (List.mem_of_getElem? (i := 312) (by decide +kernel)) (by decide +kernel)
theorem qw_321 : (Cond.arrayClass FieldType.byte) ∈ hTbl := hIn (List.mem_of_getElem? (i := 321) (by decide +kernel)) (by decide +kernel)
theorem qw_322 : (Cond.methodLink RX4 229 yX4_about) ∈ hTbl := hIn (List.mem_of_getElem? (i := 322) (by decide +kernel)) (by decide +kernel)
theorem qw_323 : (Cond.instanceMethod yX4_about) ∈ hTbl := hIn (List.mem_of_getElem? (i := 323) (by decide +kernel)) (by decide +kernel)
theorem qw_324 : (Cond.selects RX4 yX4_about yX4_about) ∈ hTbl := hIn (List.mem_of_getElem? (i := 324) (by decide +kernel)) (by decide +kernel)
theorem qw_325 : (Cond.code yX4_about cX4_about 4 (some FieldType.int)) ∈ hTbl := hIn (List.mem_of_getElem? (i := 325) (by decide +kernel)) (by decide +kernel)
theorem qw_326 : (Cond.methodLink RX4 76 yX4_herbNumbered) ∈ hTbl := hIn (List.mem_of_getElem? (i := 326) (by decide +kernel)) (by decide +kernel)
theorem qw_328 : (Cond.instanceMethod yX4_herbNumbered) ∈ hTbl := hIn (List.mem_of_getElem? (i := 328) (by decide +kernel)) (by decide +kernel)
theorem qw_329 : (Cond.code yX4_herbNumbered cX4_herbNumbered 2 (some (FieldType.object RX0))) ∈ hTbl := hIn (List.mem_of_getElem? (i := 329) (by decide +kernel)) (by decide +kernel)
theorem qw_330 : (Cond.classLink RX4 58 RX0) ∈ hTbl := hIn (List.mem_of_getElem? (i := 330) (by decide +kernel)) (by decide +kernel)
theorem qw_331 : (Cond.stringRef RX4 80 "there is no such herb") ∈ lw_tbl := List.mem_of_getElem? (i := 331) (by decide +kernel)
theorem qw_332 : (Cond.methodLink RX4 166 yX3_bundlesOf) ∈ hTbl := hIn (List.mem_of_getElem? (i := 332) (by decide +kernel)) (by decide +kernel)
theorem qw_333 : (Cond.instanceMethod yX3_bundlesOf) ∈ hTbl := hIn (List.mem_of_getElem? (i := 333) (by decide +kernel)) (by decide +kernel)
theorem qw_334 : (Cond.selects RX3 yX3_bundlesOf yX3_bundlesOf) ∈ hTbl := hIn (List.mem_of_getElem? (i := 334) (by decide +kernel)) (by decide +kernel)
theorem qw_335 : (Cond.code yX3_bundlesOf cX3_bundlesOf 7 (some FieldType.int)) ∈ hTbl := hIn (List.mem_of_getElem? (i := 335) (by decide +kernel)) (by decide +kernel)
theorem qw_336 : (Cond.methodLink RX3 79 yX1_isTakenBy) ∈ hTbl := hIn (List.mem_of_getElem? (i := 336) (by decide +kernel)) (by decide +kernel)
theorem qw_337 : (Cond.methodLink RX4 170 yX3_mouldyBundlesOf) ∈ hTbl := hIn (List.mem_of_getElem? (i := 337) (by decide +kernel)) (by decide +kernel)
theorem qw_338 : (Cond.instanceMethod yX3_mouldyBundlesOf) ∈ hTbl := hIn (List.mem_of_getElem? (i := 338) (by decide +kernel)) (by decide +kernel)
theorem qw_339 : (Cond.selects RX3 yX3_mouldyBundlesOf yX3_mouldyBundlesOf) ∈ hTbl := hIn (List.mem_of_getElem? (i := 339) (by decide +kernel)) (by decide +kernel)
theorem qw_340 : (Cond.code yX3_mouldyBundlesOf cX3_mouldyBundlesOf 7 (some FieldType.int)) ∈ hTbl := hIn (List.mem_of_getElem? (i := 340) (by decide +kernel)) (by decide +kernel)
theorem qw_341 : (Cond.methodLink RX4 173 yX3_leastCleanWetnessOf) ∈ hTbl := hIn (List.mem_of_getElem? (i := 341) (by decide +kernel)) (by decide +kernel)
theorem qw_342 : (Cond.instanceMethod yX3_leastCleanWetnessOf) ∈ hTbl := hIn (List.mem_of_getElem? (i := 342) (by decide +kernel)) (by decide +kernel)
theorem qw_343 : (Cond.selects RX3 yX3_leastCleanWetnessOf yX3_leastCleanWetnessOf) ∈ hTbl := hIn (List.mem_of_getElem? (i := 343) (by decide +kernel)) (by decide +kernel)
theorem qw_344 : (Cond.code yX3_leastCleanWetnessOf cX3_leastCleanWetnessOf 7 (some FieldType.int)) ∈ hTbl := hIn (List.mem_of_getElem? (i := 344) (by decide +kernel)) (by decide +kernel)
theorem qw_345 : (Cond.stringRef RX4 176 "what is not 0 to 4") ∈ lw_tbl := List.mem_of_getElem? (i := 345) (by decide +kernel)
theorem qw_346 : (Cond.methodLink RX4 232 yX4_asked) ∈ hTbl := hIn (List.mem_of_getElem? (i := 346) (by decide +kernel)) (by decide +kernel)
theorem qw_347 : (Cond.instanceMethod yX4_asked) ∈ hTbl := hIn (List.mem_of_getElem? (i := 347) (by decide +kernel)) (by decide +kernel)
theorem qw_348 : (Cond.selects RX4 yX4_asked yX4_asked) ∈ hTbl := hIn (List.mem_of_getElem? (i := 348) (by decide +kernel)) (by decide +kernel)
theorem qw_349 : (Cond.code yX4_asked cX4_asked 4 (some FieldType.int)) ∈ hTbl := hIn (List.mem_of_getElem? (i := 349) (by decide +kernel)) (by decide +kernel)
theorem qw_350 : (Cond.stringRef RX4 178 "there is no such order") ∈ lw_tbl := List.mem_of_getElem? (i := 350) (by decide +kernel)
theorem qw_351 : (Cond.methodLink RX4 196 yX3_bundlesThatFit) ∈ hTbl := hIn (List.mem_of_getElem? (i := 351) (by decide +kernel)) (by decide +kernel)
theorem qw_352 : (Cond.instanceMethod yX3_bundlesThatFit) ∈ hTbl := hIn (List.mem_of_getElem? (i := 352) (by decide +kernel)) (by decide +kernel)
theorem qw_353 : (Cond.selects RX3 yX3_bundlesThatFit yX3_bundlesThatFit) ∈ hTbl := hIn (List.mem_of_getElem? (i := 353) (by decide +kernel)) (by decide +kernel)
theorem qw_354 : (Cond.code yX3_bundlesThatFit cX3_bundlesThatFit 7 (some FieldType.int)) ∈ hTbl := hIn (List.mem_of_getElem? (i := 354) (by decide +kernel)) (by decide +kernel)
theorem qw_355 : (Cond.methodLink RX4 235 yX4_told) ∈ hTbl := hIn (List.mem_of_getElem? (i := 355) (by decide +kernel)) (by decide +kernel)
theorem qw_356 : (Cond.instanceMethod yX4_told) ∈ hTbl := hIn (List.mem_of_getElem? (i := 356) (by decide +kernel)) (by decide +kernel)
theorem qw_357 : (Cond.selects RX4 yX4_told yX4_told) ∈ hTbl := hIn (List.mem_of_getElem? (i := 357) (by decide +kernel)) (by decide +kernel)
theorem qw_358 : (Cond.code yX4_told cX4_told 5 (some FieldType.int)) ∈ hTbl := hIn (List.mem_of_getElem? (i := 358) (by decide +kernel)) (by decide +kernel)
theorem qw_359 : (Cond.methodLink RX4 67 yX3_hookAt) ∈ hTbl := hIn (List.mem_of_getElem? (i := 359) (by decide +kernel)) (by decide +kernel)
theorem qw_360 : (Cond.stringRef RX4 73 "there is no such string or hook") ∈ lw_tbl := List.mem_of_getElem? (i := 360) (by decide +kernel)
theorem qw_361 : (Cond.methodLink RX4 36 yX4_isWithin) ∈ hTbl := hIn (List.mem_of_getElem? (i := 361) (by decide +kernel)) (by decide +kernel)
theorem qw_362 : (Cond.stringRef RX4 155 "what is not 0 to 7") ∈ lw_tbl := List.mem_of_getElem? (i := 362) (by decide +kernel)
theorem qw_363 : (Cond.methodLink RX4 157 yX1_tells) ∈ hTbl := hIn (List.mem_of_getElem? (i := 363) (by decide +kernel)) (by decide +kernel)
theorem qw_364 : (Cond.instanceMethod yX1_tells) ∈ hTbl := hIn (List.mem_of_getElem? (i := 364) (by decide +kernel)) (by decide +kernel)
theorem qw_365 : (Cond.selects RX1 yX1_tells yX1_tells) ∈ hTbl := hIn (List.mem_of_getElem? (i := 365) (by decide +kernel)) (by decide +kernel)
theorem qw_366 : (Cond.code yX1_tells cX1_tells 2 (some FieldType.int)) ∈ hTbl := hIn (List.mem_of_getElem? (i := 366) (by decide +kernel)) (by decide +kernel)
theorem qw_367 : (Cond.methodLink RX1 97 yX1_neighbours) ∈ hTbl := hIn (List.mem_of_getElem? (i := 367) (by decide +kernel)) (by decide +kernel)
theorem qw_368 : (Cond.instanceMethod yX1_neighbours) ∈ hTbl := hIn (List.mem_of_getElem? (i := 368) (by decide +kernel)) (by decide +kernel)
theorem qw_369 : (Cond.selects RX1 yX1_neighbours yX1_neighbours) ∈ hTbl := hIn (List.mem_of_getElem? (i := 369) (by decide +kernel)) (by decide +kernel)
theorem qw_370 : (Cond.code yX1_neighbours cX1_neighbours 2 (some FieldType.int)) ∈ hTbl := hIn (List.mem_of_getElem? (i := 370) (by decide +kernel)) (by decide +kernel)
theorem qw_371 : (Cond.methodLink RX1 53 yX1_isTaken) ∈ hTbl := hIn (List.mem_of_getElem? (i := 371) (by decide +kernel)) (by decide +kernel)
theorem qw_372 : (Cond.methodLink RX1 69 yX1_wetterNeighbours) ∈ hTbl := hIn (List.mem_of_getElem? (i := 372) (by decide +kernel)) (by decide +kernel)
theorem qw_373 : (Cond.instanceMethod yX1_wetterNeighbours) ∈ hTbl := hIn (List.mem_of_getElem? (i := 373) (by decide +kernel)) (by decide +kernel)
theorem qw_374 : (Cond.selects RX1 yX1_wetterNeighbours yX1_wetterNeighbours) ∈ hTbl := hIn (List.mem_of_getElem? (i := 374) (by decide +kernel)) (by decide +kernel)
theorem qw_375 : (Cond.code yX1_wetterNeighbours cX1_wetterNeighbours 2 (some FieldType.int)) ∈ hTbl := hIn (List.mem_of_getElem? (i := 375) (by decide +kernel)) (by decide +kernel)
theorem qw_376 : (Cond.methodLink RX1 60 yX1_isWetterThan) ∈ hTbl := hIn (List.mem_of_getElem? (i := 376) (by decide +kernel)) (by decide +kernel)
theorem qw_378 : (Cond.instanceMethod yX1_isWetterThan) ∈ hTbl := hIn (List.mem_of_getElem? (i := 378) (by decide +kernel)) (by decide +kernel)
theorem qw_379 : (Cond.code yX1_isWetterThan cX1_isWetterThan 2 (some FieldType.boolean)) ∈ hTbl := hIn (List.mem_of_getElem? (i := 379) (by decide +kernel)) (by decide +kernel)
theorem qw_380 : (Cond.methodLink RL 68 yL_herb) ∈ hTbl := hIn (List.mem_of_getElem? (i := 380) (by decide +kernel)) (by decide +kernel)
theorem qw_381 : (Cond.static yL_herb) ∈ hTbl := hIn (List.mem_of_getElem? (i := 381) (by decide +kernel)) (by decide +kernel)
theorem qw_382 : (Cond.codeWith yL_herb cL_herb 5 (some FieldType.int) [(0, 10, 13, 13), (0, 10, 17, 15)]) ∈ hTbl := hIn (List.mem_of_getElem? (i := 382) (by decide +kernel)) (by decide +kernel)
theorem qw_383 : (Cond.classLink RL 13 "java/lang/IllegalArgumentException") ∈ hTbl := hIn (List.mem_of_getElem? (i := 383) (by decide +kernel)) (by decide +kernel)
theorem qw_384 : (Cond.classLink RL 15 "java/lang/IllegalStateException") ∈ hTbl := hIn (List.mem_of_getElem? (i := 384) (by decide +kernel)) (by decide +kernel)
theorem qw_385 : (Cond.methodLink RL 7 yX4_herb) ∈ hTbl := hIn (List.mem_of_getElem? (i := 385) (by decide +kernel)) (by decide +kernel)
theorem qw_386 : (Cond.instanceMethod yX4_herb) ∈ hTbl := hIn (List.mem_of_getElem? (i := 386) (by decide +kernel)) (by decide +kernel)
theorem qw_387 : (Cond.selects RX4 yX4_herb yX4_herb) ∈ hTbl := hIn (List.mem_of_getElem? (i := 387) (by decide +kernel)) (by decide +kernel)
theorem qw_388 : (Cond.code yX4_herb cX4_herb 4 (some FieldType.int)) ∈ hTbl := hIn (List.mem_of_getElem? (i := 388) (by decide +kernel)) (by decide +kernel)
theorem qw_389 : (Cond.classLink RX4 40 "java/lang/IllegalArgumentException") ∈ hTbl := hIn (List.mem_of_getElem? (i := 389) (by decide +kernel)) (by decide +kernel)
theorem qw_390 : (Cond.instantiable "java/lang/IllegalArgumentException" 6) ∈ hTbl := hIn (List.mem_of_getElem? (i := 390) (by decide +kernel)) (by decide +kernel)
theorem qw_391 : (Cond.castable "java/lang/IllegalArgumentException" "java/lang/IllegalArgumentException") ∈ hNest := hInN (List.mem_of_getElem? (i := 391) (by decide +kernel)) (by decide +kernel)
theorem qw_392 : (Cond.selects "java/lang/IllegalArgumentException" ⟨"java/lang/Throwable", "fillInStackTrace", "(I)Ljava/lang/Throwable;"⟩ ⟨"java/lang/Throwable", "fillInStackTrace", "(I)Ljava/lang/Throwable;"⟩) ∈ hTbl := hIn (List.mem_of_getElem? (i := 392) (by decide +kernel)) (by decide +kernel)
theorem qw_398 : (Cond.stringRef RX4 42 "the ease is not 1 to 9") ∈ lw_tbl := List.mem_of_getElem? (i := 398) (by decide +kernel)
theorem qw_399 : (Cond.methodLink RX4 44 ⟨"java/lang/IllegalArgumentException", "<init>", "(Ljava/lang/String;)V"⟩) ∈ hTbl := hIn (List.mem_of_getElem? (i := 399) (by decide +kernel)) (by decide +kernel)
theorem qw_400 : (Cond.instanceMethod ⟨"java/lang/IllegalArgumentException", "<init>", "(Ljava/lang/String;)V"⟩) ∈ hTbl := hIn (List.mem_of_getElem? (i := 400) (by decide +kernel)) (by decide +kernel)
theorem qw_401 : (Cond.code ⟨"java/lang/IllegalArgumentException", "<init>", "(Ljava/lang/String;)V"⟩ prog_12_method_2_code 2 none) ∈ hTbl := hIn (List.mem_of_getElem? (i := 401) (by decide +kernel)) (by decide +kernel)
theorem qw_402 : (Cond.methodLink "java/lang/IllegalArgumentException" 7 ⟨"java/lang/RuntimeException", "<init>", "(Ljava/lang/String;)V"⟩) ∈ hTbl := hIn (List.mem_of_getElem? (i := 402) (by decide +kernel)) (by decide +kernel)
theorem qw_405 : (Cond.stringRef RX4 47 "the limit is not 20 to 90") ∈ lw_tbl := List.mem_of_getElem? (i := 405) (by decide +kernel)
theorem qw_406 : (Cond.classLink RX4 53 "java/lang/IllegalStateException") ∈ hTbl := hIn (List.mem_of_getElem? (i := 406) (by decide +kernel)) (by decide +kernel)
theorem qw_407 : (Cond.instantiable "java/lang/IllegalStateException" 6) ∈ hTbl := hIn (List.mem_of_getElem? (i := 407) (by decide +kernel)) (by decide +kernel)
theorem qw_408 : (Cond.castable "java/lang/IllegalStateException" "java/lang/IllegalStateException") ∈ hNest := hInN (List.mem_of_getElem? (i := 408) (by decide +kernel)) (by decide +kernel)
theorem qw_409 : (Cond.selects "java/lang/IllegalStateException" ⟨"java/lang/Throwable", "fillInStackTrace", "(I)Ljava/lang/Throwable;"⟩ ⟨"java/lang/Throwable", "fillInStackTrace", "(I)Ljava/lang/Throwable;"⟩) ∈ hTbl := hIn (List.mem_of_getElem? (i := 409) (by decide +kernel)) (by decide +kernel)
theorem qw_415 : (Cond.stringRef RX4 55 "there are 6 herbs") ∈ lw_tbl := List.mem_of_getElem? (i := 415) (by decide +kernel)
theorem qw_416 : (Cond.methodLink RX4 57 ⟨"java/lang/IllegalStateException", "<init>", "(Ljava/lang/String;)V"⟩) ∈ hTbl := hIn (List.mem_of_getElem? (i := 416) (by decide +kernel)) (by decide +kernel)
theorem qw_417 : (Cond.instanceMethod ⟨"java/lang/IllegalStateException", "<init>", "(Ljava/lang/String;)V"⟩) ∈ hTbl := hIn (List.mem_of_getElem? (i := 417) (by decide +kernel)) (by decide +kernel)
theorem qw_418 : (Cond.code ⟨"java/lang/IllegalStateException", "<init>", "(Ljava/lang/String;)V"⟩ prog_13_method_2_code 2 none) ∈ hTbl := hIn (List.mem_of_getElem? (i := 418) (by decide +kernel)) (by decide +kernel)
theorem qw_419 : (Cond.methodLink "java/lang/IllegalStateException" 7 ⟨"java/lang/RuntimeException", "<init>", "(Ljava/lang/String;)V"⟩) ∈ hTbl := hIn (List.mem_of_getElem? (i := 419) (by decide +kernel)) (by decide +kernel)
theorem qw_422 : (Cond.instantiable RX0 3) ∈ hTbl := hIn (List.mem_of_getElem? (i := 422) (by decide +kernel)) (by decide +kernel)
theorem qw_423 : (Cond.methodLink RX4 60 yX0_init) ∈ hTbl := hIn (List.mem_of_getElem? (i := 423) (by decide +kernel)) (by decide +kernel)
theorem qw_424 : (Cond.instanceMethod yX0_init) ∈ hTbl := hIn (List.mem_of_getElem? (i := 424) (by decide +kernel)) (by decide +kernel)
theorem qw_425 : (Cond.code yX0_init cX0_init 4 none) ∈ hTbl := hIn (List.mem_of_getElem? (i := 425) (by decide +kernel)) (by decide +kernel)
theorem qw_426 : (Cond.methodLink RX0 1 objectInit) ∈ hTbl := hIn (List.mem_of_getElem? (i := 426) (by decide +kernel)) (by decide +kernel)
theorem qw_427 : (Cond.fieldLink RX0 7 RX0 "number" "I") ∈ hTbl := hIn (List.mem_of_getElem? (i := 427) (by decide +kernel)) (by decide +kernel)
theorem qw_428 : (Cond.fieldLink RX4 184 RX0 "number" "I") ∈ hTbl := hIn (List.mem_of_getElem? (i := 428) (by decide +kernel)) (by decide +kernel)
theorem qw_429 : (Cond.fieldLink RX1 94 RX0 "number" "I") ∈ hTbl := hIn (List.mem_of_getElem? (i := 429) (by decide +kernel)) (by decide +kernel)
theorem qw_430 : (Cond.fieldLink RX0 13 RX0 "ease" "I") ∈ hTbl := hIn (List.mem_of_getElem? (i := 430) (by decide +kernel)) (by decide +kernel)
theorem qw_431 : (Cond.fieldLink RX4 160 RX0 "ease" "I") ∈ hTbl := hIn (List.mem_of_getElem? (i := 431) (by decide +kernel)) (by decide +kernel)
theorem qw_432 : (Cond.fieldLink RX1 64 RX0 "ease" "I") ∈ hTbl := hIn (List.mem_of_getElem? (i := 432) (by decide +kernel)) (by decide +kernel)
theorem qw_433 : (Cond.fieldLink RX0 16 RX0 "limit" "I") ∈ hTbl := hIn (List.mem_of_getElem? (i := 433) (by decide +kernel)) (by decide +kernel)
theorem qw_434 : (Cond.fieldLink RX4 163 RX0 "limit" "I") ∈ hTbl := hIn (List.mem_of_getElem? (i := 434) (by decide +kernel)) (by decide +kernel)
theorem qw_435 : (Cond.fieldLink RX1 88 RX0 "limit" "I") ∈ hTbl := hIn (List.mem_of_getElem? (i := 435) (by decide +kernel)) (by decide +kernel)
theorem qw_443 : (Cond.methodLink RX4 63 yJx4a65c_add_9ea2d) ∈ hTbl := hIn (List.mem_of_getElem? (i := 443) (by decide +kernel)) (by decide +kernel)
theorem qw_444 : (Cond.instanceMethod yJx4a65c_add_9ea2d) ∈ hTbl := hIn (List.mem_of_getElem? (i := 444) (by decide +kernel)) (by decide +kernel)
theorem qw_445 : (Cond.selects RJx4a65c yJx4a65c_add_9ea2d yJx4a65c_add_9ea2d) ∈ hTbl := hIn (List.mem_of_getElem? (i := 445) (by decide +kernel)) (by decide +kernel)
theorem qw_446 : (Cond.code yJx4a65c_add_9ea2d cJx4a65c_add_9ea2d 2 (some FieldType.boolean)) ∈ hTbl := hIn (List.mem_of_getElem? (i := 446) (by decide +kernel)) (by decide +kernel)
theorem qw_447 : (Cond.methodLink RJx4a65c 131 yJx4a65c_add_72be8) ∈ hTbl := hIn (List.mem_of_getElem? (i := 447) (by decide +kernel)) (by decide +kernel)
theorem qw_449 : (Cond.instanceMethod yJx4a65c_add_72be8) ∈ hTbl := hIn (List.mem_of_getElem? (i := 449) (by decide +kernel)) (by decide +kernel)
theorem qw_450 : (Cond.code yJx4a65c_add_72be8 cJx4a65c_add_72be8 4 none) ∈ hTbl := hIn (List.mem_of_getElem? (i := 450) (by decide +kernel)) (by decide +kernel)
theorem qw_451 : (Cond.methodLink RJx4a65c 129 yJx4a65c_grow_d5877) ∈ hTbl := hIn (List.mem_of_getElem? (i := 451) (by decide +kernel)) (by decide +kernel)
theorem qw_453 : (Cond.instanceMethod yJx4a65c_grow_d5877) ∈ hTbl := hIn (List.mem_of_getElem? (i := 453) (by decide +kernel)) (by decide +kernel)
theorem qw_454 : (Cond.code yJx4a65c_grow_d5877 cJx4a65c_grow_d5877 1 (some (FieldType.array (FieldType.object "java/lang/Object")))) ∈ hTbl := hIn (List.mem_of_getElem? (i := 454) (by decide +kernel)) (by decide +kernel)
theorem qw_455 : (Cond.methodLink RJx4a65c 69 yJx4a65c_grow_92f84) ∈ hTbl := hIn (List.mem_of_getElem? (i := 455) (by decide +kernel)) (by decide +kernel)
theorem qw_457 : (Cond.instanceMethod yJx4a65c_grow_92f84) ∈ hTbl := hIn (List.mem_of_getElem? (i := 457) (by decide +kernel)) (by decide +kernel)
theorem qw_458 : (Cond.code yJx4a65c_grow_92f84 cJx4a65c_grow_92f84 4 (some (FieldType.array (FieldType.object "java/lang/Object")))) ∈ hTbl := hIn (List.mem_of_getElem? (i := 458) (by decide +kernel)) (by decide +kernel)
theorem qw_459 : (Cond.methodLink RJx4a65c 73 yJ8_newLength_cabcc) ∈ hTbl := hIn (List.mem_of_getElem? (i := 459) (by decide +kernel)) (by decide +kernel)
theorem qw_460 : (Cond.static yJ8_newLength_cabcc) ∈ hTbl := hIn (List.mem_of_getElem? (i := 460) (by decide +kernel)) (by decide +kernel)
theorem qw_461 : (Cond.code yJ8_newLength_cabcc cJ8_newLength_cabcc 4 (some FieldType.int)) ∈ hTbl := hIn (List.mem_of_getElem? (i := 461) (by decide +kernel)) (by decide +kernel)
theorem qw_462 : (Cond.methodLink RJ8 194 Lib.Math.max.name) ∈ hTbl := hIn (List.mem_of_getElem? (i := 462) (by decide +kernel)) (by decide +kernel)
theorem qw_463 : (Cond.static Lib.Math.max.name) ∈ hTbl := hIn (List.mem_of_getElem? (i := 463) (by decide +kernel)) (by decide +kernel)
theorem qw_464 : (Cond.code Lib.Math.max.name Lib.Math.max.code 2 (some FieldType.int)) ∈ hTbl := hIn (List.mem_of_getElem? (i := 464) (by decide +kernel)) (by decide +kernel)
theorem qw_465 : (Cond.constant RJ8 200 (2147483639 : Int32)) ∈ hTbl := hIn (List.mem_of_getElem? (i := 465) (by decide +kernel)) (by decide +kernel)
theorem qw_466 : (Cond.methodLink RJ8 201 yJ8_hugeLength_7cf53) ∈ hTbl := hIn (List.mem_of_getElem? (i := 466) (by decide +kernel)) (by decide +kernel)
theorem qw_467 : (Cond.static yJ8_hugeLength_7cf53) ∈ hTbl := hIn (List.mem_of_getElem? (i := 467) (by decide +kernel)) (by decide +kernel)
theorem qw_468 : (Cond.code yJ8_hugeLength_7cf53 cJ8_hugeLength_7cf53 3 (some FieldType.int)) ∈ hTbl := hIn (List.mem_of_getElem? (i := 468) (by decide +kernel)) (by decide +kernel)
theorem qw_469 : (Cond.methodLink RJx4a65c 66 yJ7_copyOf_1904c) ∈ hTbl := hIn (List.mem_of_getElem? (i := 469) (by decide +kernel)) (by decide +kernel)
theorem qw_470 : (Cond.static yJ7_copyOf_1904c) ∈ hTbl := hIn (List.mem_of_getElem? (i := 470) (by decide +kernel)) (by decide +kernel)
theorem qw_471 : (Cond.code yJ7_copyOf_1904c cJ7_copyOf_1904c 2 (some (FieldType.array (FieldType.object "java/lang/Object")))) ∈ hTbl := hIn (List.mem_of_getElem? (i := 471) (by decide +kernel)) (by decide +kernel)
theorem qw_472 : (Cond.methodLink RJ7 86 ⟨"java/lang/Object", "getClass", "()Ljava/lang/Class;"⟩) ∈ hTbl := hIn (List.mem_of_getElem? (i := 472) (by decide +kernel)) (by decide +kernel)
theorem qw_473 : (Cond.instanceMethod ⟨"java/lang/Object", "getClass", "()Ljava/lang/Class;"⟩) ∈ hTbl := hIn (List.mem_of_getElem? (i := 473) (by decide +kernel)) (by decide +kernel)
theorem qw_475 : (Cond.selects RX4 ⟨"java/lang/Object", "getClass", "()Ljava/lang/Class;"⟩ ⟨"java/lang/Object", "getClass", "()Ljava/lang/Class;"⟩) ∈ hTbl := hIn (List.mem_of_getElem? (i := 475) (by decide +kernel)) (by decide +kernel)
theorem qw_476 : (Cond.selects RX0 ⟨"java/lang/Object", "getClass", "()Ljava/lang/Class;"⟩ ⟨"java/lang/Object", "getClass", "()Ljava/lang/Class;"⟩) ∈ hTbl := hIn (List.mem_of_getElem? (i := 476) (by decide +kernel)) (by decide +kernel)
theorem qw_477 : (Cond.selects RX1 ⟨"java/lang/Object", "getClass", "()Ljava/lang/Class;"⟩ ⟨"java/lang/Object", "getClass", "()Ljava/lang/Class;"⟩) ∈ hTbl := hIn (List.mem_of_getElem? (i := 477) (by decide +kernel)) (by decide +kernel)
theorem qw_478 : (Cond.selects RX2 ⟨"java/lang/Object", "getClass", "()Ljava/lang/Class;"⟩ ⟨"java/lang/Object", "getClass", "()Ljava/lang/Class;"⟩) ∈ hTbl := hIn (List.mem_of_getElem? (i := 478) (by decide +kernel)) (by decide +kernel)
theorem qw_479 : (Cond.selects RX3 ⟨"java/lang/Object", "getClass", "()Ljava/lang/Class;"⟩ ⟨"java/lang/Object", "getClass", "()Ljava/lang/Class;"⟩) ∈ hTbl := hIn (List.mem_of_getElem? (i := 479) (by decide +kernel)) (by decide +kernel)
theorem qw_480 : (Cond.selects RX6 ⟨"java/lang/Object", "getClass", "()Ljava/lang/Class;"⟩ ⟨"java/lang/Object", "getClass", "()Ljava/lang/Class;"⟩) ∈ hTbl := hIn (List.mem_of_getElem? (i := 480) (by decide +kernel)) (by decide +kernel)
theorem qw_481 : (Cond.selects RX5 ⟨"java/lang/Object", "getClass", "()Ljava/lang/Class;"⟩ ⟨"java/lang/Object", "getClass", "()Ljava/lang/Class;"⟩) ∈ hTbl := hIn (List.mem_of_getElem? (i := 481) (by decide +kernel)) (by decide +kernel)
theorem qw_482 : (Cond.selects "java/lang/IllegalArgumentException" ⟨"java/lang/Object", "getClass", "()Ljava/lang/Class;"⟩ ⟨"java/lang/Object", "getClass", "()Ljava/lang/Class;"⟩) ∈ hTbl := hIn (List.mem_of_getElem? (i := 482) (by decide +kernel)) (by decide +kernel)
theorem qw_483 : (Cond.selects "java/lang/IllegalStateException" ⟨"java/lang/Object", "getClass", "()Ljava/lang/Class;"⟩ ⟨"java/lang/Object", "getClass", "()Ljava/lang/Class;"⟩) ∈ hTbl := hIn (List.mem_of_getElem? (i := 483) (by decide +kernel)) (by decide +kernel)
theorem qw_484 : (Cond.selects "java/lang/IndexOutOfBoundsException" ⟨"java/lang/Object", "getClass", "()Ljava/lang/Class;"⟩ ⟨"java/lang/Object", "getClass", "()Ljava/lang/Class;"⟩) ∈ hTbl := hIn (List.mem_of_getElem? (i := 484) (by decide +kernel)) (by decide +kernel)
theorem qw_485 : (Cond.selects RJx4a65c ⟨"java/lang/Object", "getClass", "()Ljava/lang/Class;"⟩ ⟨"java/lang/Object", "getClass", "()Ljava/lang/Class;"⟩) ∈ hTbl := hIn (List.mem_of_getElem? (i := 485) (by decide +kernel)) (by decide +kernel)
theorem qw_486 : (Cond.native ⟨"java/lang/Object", "getClass", "()Ljava/lang/Class;"⟩) ∈ hTbl := hIn (List.mem_of_getElem? (i := 486) (by decide +kernel)) (by decide +kernel)
theorem qw_487 : (Cond.methodLink RJ7 300 yJ7_copyOf_6403c) ∈ hTbl := hIn (List.mem_of_getElem? (i := 487) (by decide +kernel)) (by decide +kernel)
theorem qw_488 : (Cond.static yJ7_copyOf_6403c) ∈ hTbl := hIn (List.mem_of_getElem? (i := 488) (by decide +kernel)) (by decide +kernel)
theorem qw_489 : (Cond.code yJ7_copyOf_6403c cJ7_copyOf_6403c 4 (some (FieldType.array (FieldType.object "java/lang/Object")))) ∈ hTbl := hIn (List.mem_of_getElem? (i := 489) (by decide +kernel)) (by decide +kernel)
theorem qw_490 : (Cond.classLink RJ7 110 "[Ljava/lang/Object;") ∈ hTbl := hIn (List.mem_of_getElem? (i := 490) (by decide +kernel)) (by decide +kernel)
theorem qw_491 : (Cond.arrayOver (FieldType.object "java/lang/Object")) ∈ lw_tbl := List.mem_of_getElem? (i := 491) (by decide +kernel)
theorem qw_492 : (Cond.classLink RJ7 2 "java/lang/Object") ∈ hTbl := hIn (List.mem_of_getElem? (i := 492) (by decide +kernel)) (by decide +kernel)
theorem qw_493 : (Cond.methodLink RJ7 304 Lib.Math.min.name) ∈ hTbl := hIn (List.mem_of_getElem? (i := 493) (by decide +kernel)) (by decide +kernel)
theorem qw_494 : (Cond.static Lib.Math.min.name) ∈ hTbl := hIn (List.mem_of_getElem? (i := 494) (by decide +kernel)) (by decide +kernel)
theorem qw_495 : (Cond.code Lib.Math.min.name Lib.Math.min.code 2 (some FieldType.int)) ∈ hTbl := hIn (List.mem_of_getElem? (i := 495) (by decide +kernel)) (by decide +kernel)
theorem qw_496 : (Cond.methodLink RJ7 150 arraycopyName) ∈ hTbl := hIn (List.mem_of_getElem? (i := 496) (by decide +kernel)) (by decide +kernel)
theorem qw_497 : (Cond.static arraycopyName) ∈ hTbl := hIn (List.mem_of_getElem? (i := 497) (by decide +kernel)) (by decide +kernel)
theorem qw_498 : (Cond.native arraycopyName) ∈ hTbl := hIn (List.mem_of_getElem? (i := 498) (by decide +kernel)) (by decide +kernel)
theorem qw_499 : (Cond.methodLink RJx4a65c 79 Lib.Math.max.name) ∈ hTbl := hIn (List.mem_of_getElem? (i := 499) (by decide +kernel)) (by decide +kernel)
theorem qw_500 : (Cond.classLink RJx4a65c 7 "java/lang/Object") ∈ hTbl := hIn (List.mem_of_getElem? (i := 500) (by decide +kernel)) (by decide +kernel)
theorem qw_501 : (Cond.methodLink RL 78 yL_hang) ∈ hTbl := hIn (List.mem_of_getElem? (i := 501) (by decide +kernel)) (by decide +kernel)
theorem qw_502 : (Cond.static yL_hang) ∈ hTbl := hIn (List.mem_of_getElem? (i := 502) (by decide +kernel)) (by decide +kernel)
theorem qw_503 : (Cond.codeWith yL_hang cL_hang 7 (some FieldType.int) [(0, 14, 17, 21), (0, 14, 21, 13), (0, 14, 25, 15)]) ∈ hTbl := hIn (List.mem_of_getElem? (i := 503) (by decide +kernel)) (by decide +kernel)
theorem qw_504 : (Cond.classLink RL 21 "java/lang/IndexOutOfBoundsException") ∈ hTbl := hIn (List.mem_of_getElem? (i := 504) (by decide +kernel)) (by decide +kernel)
theorem qw_505 : (Cond.methodLink RL 17 yX4_hang) ∈ hTbl := hIn (List.mem_of_getElem? (i := 505) (by decide +kernel)) (by decide +kernel)
theorem qw_506 : (Cond.instanceMethod yX4_hang) ∈ hTbl := hIn (List.mem_of_getElem? (i := 506) (by decide +kernel)) (by decide +kernel)
theorem qw_507 : (Cond.selects RX4 yX4_hang yX4_hang) ∈ hTbl := hIn (List.mem_of_getElem? (i := 507) (by decide +kernel)) (by decide +kernel)
theorem qw_508 : (Cond.code yX4_hang cX4_hang 7 (some FieldType.int)) ∈ hTbl := hIn (List.mem_of_getElem? (i := 508) (by decide +kernel)) (by decide +kernel)
theorem qw_509 : (Cond.stringRef RX4 82 "wet is not 0 to 100") ∈ lw_tbl := List.mem_of_getElem? (i := 509) (by decide +kernel)
theorem qw_510 : (Cond.methodLink RX4 84 yX1_isTaken) ∈ hTbl := hIn (List.mem_of_getElem? (i := 510) (by decide +kernel)) (by decide +kernel)
theorem qw_511 : (Cond.stringRef RX4 90 "a bundle hangs there") ∈ lw_tbl := List.mem_of_getElem? (i := 511) (by decide +kernel)
theorem qw_512 : (Cond.methodLink RX4 92 yX1_receiveNew) ∈ hTbl := hIn (List.mem_of_getElem? (i := 512) (by decide +kernel)) (by decide +kernel)
theorem qw_513 : (Cond.methodLink RL 82 yL_take) ∈ hTbl := hIn (List.mem_of_getElem? (i := 513) (by decide +kernel)) (by decide +kernel)
theorem qw_514 : (Cond.static yL_take) ∈ hTbl := hIn (List.mem_of_getElem? (i := 514) (by decide +kernel)) (by decide +kernel)
theorem qw_515 : (Cond.codeWith yL_take cL_take 5 (some FieldType.int) [(0, 10, 13, 21), (0, 10, 17, 15)]) ∈ hTbl := hIn (List.mem_of_getElem? (i := 515) (by decide +kernel)) (by decide +kernel)
theorem qw_516 : (Cond.methodLink RL 23 yX4_take) ∈ hTbl := hIn (List.mem_of_getElem? (i := 516) (by decide +kernel)) (by decide +kernel)
theorem qw_517 : (Cond.instanceMethod yX4_take) ∈ hTbl := hIn (List.mem_of_getElem? (i := 517) (by decide +kernel)) (by decide +kernel)
theorem qw_518 : (Cond.selects RX4 yX4_take yX4_take) ∈ hTbl := hIn (List.mem_of_getElem? (i := 518) (by decide +kernel)) (by decide +kernel)
theorem qw_519 : (Cond.code yX4_take cX4_take 5 (some FieldType.int)) ∈ hTbl := hIn (List.mem_of_getElem? (i := 519) (by decide +kernel)) (by decide +kernel)
theorem qw_520 : (Cond.stringRef RX4 99 "no bundle hangs there") ∈ lw_tbl := List.mem_of_getElem? (i := 520) (by decide +kernel)
theorem qw_521 : (Cond.methodLink RX4 101 yX1_wetness) ∈ hTbl := hIn (List.mem_of_getElem? (i := 521) (by decide +kernel)) (by decide +kernel)
theorem qw_522 : (Cond.methodLink RX4 104 yX1_clear) ∈ hTbl := hIn (List.mem_of_getElem? (i := 522) (by decide +kernel)) (by decide +kernel)
theorem qw_523 : (Cond.methodLink RL 85 yL_move) ∈ hTbl := hIn (List.mem_of_getElem? (i := 523) (by decide +kernel)) (by decide +kernel)
theorem qw_524 : (Cond.static yL_move) ∈ hTbl := hIn (List.mem_of_getElem? (i := 524) (by decide +kernel)) (by decide +kernel)
theorem qw_525 : (Cond.codeWith yL_move cL_move 7 (some FieldType.int) [(0, 14, 17, 21), (0, 14, 21, 15)]) ∈ hTbl := hIn (List.mem_of_getElem? (i := 525) (by decide +kernel)) (by decide +kernel)
theorem qw_526 : (Cond.methodLink RL 26 yX4_move) ∈ hTbl := hIn (List.mem_of_getElem? (i := 526) (by decide +kernel)) (by decide +kernel)
theorem qw_527 : (Cond.instanceMethod yX4_move) ∈ hTbl := hIn (List.mem_of_getElem? (i := 527) (by decide +kernel)) (by decide +kernel)
theorem qw_528 : (Cond.selects RX4 yX4_move yX4_move) ∈ hTbl := hIn (List.mem_of_getElem? (i := 528) (by decide +kernel)) (by decide +kernel)
theorem qw_529 : (Cond.code yX4_move cX4_move 7 (some FieldType.int)) ∈ hTbl := hIn (List.mem_of_getElem? (i := 529) (by decide +kernel)) (by decide +kernel)
theorem qw_530 : (Cond.stringRef RX4 107 "no bundle hangs on the first hook") ∈ lw_tbl := List.mem_of_getElem? (i := 530) (by decide +kernel)
theorem qw_531 : (Cond.stringRef RX4 109 "a bundle hangs on the second hook") ∈ lw_tbl := List.mem_of_getElem? (i := 531) (by decide +kernel)
theorem qw_532 : (Cond.methodLink RX4 111 yX1_copyBundleOf) ∈ hTbl := hIn (List.mem_of_getElem? (i := 532) (by decide +kernel)) (by decide +kernel)
theorem qw_533 : (Cond.instanceMethod yX1_copyBundleOf) ∈ hTbl := hIn (List.mem_of_getElem? (i := 533) (by decide +kernel)) (by decide +kernel)
theorem qw_534 : (Cond.selects RX1 yX1_copyBundleOf yX1_copyBundleOf) ∈ hTbl := hIn (List.mem_of_getElem? (i := 534) (by decide +kernel)) (by decide +kernel)
theorem qw_535 : (Cond.code yX1_copyBundleOf cX1_copyBundleOf 2 none) ∈ hTbl := hIn (List.mem_of_getElem? (i := 535) (by decide +kernel)) (by decide +kernel)
theorem qw_536 : (Cond.methodLink RX4 115 yX1_neighbours) ∈ hTbl := hIn (List.mem_of_getElem? (i := 536) (by decide +kernel)) (by decide +kernel)
theorem qw_537 : (Cond.methodLink RL 88 yL_turn) ∈ hTbl := hIn (List.mem_of_getElem? (i := 537) (by decide +kernel)) (by decide +kernel)
theorem qw_538 : (Cond.static yL_turn) ∈ hTbl := hIn (List.mem_of_getElem? (i := 538) (by decide +kernel)) (by decide +kernel)
theorem qw_539 : (Cond.codeWith yL_turn cL_turn 4 (some FieldType.int) [(0, 9, 12, 21)]) ∈ hTbl := hIn (List.mem_of_getElem? (i := 539) (by decide +kernel)) (by decide +kernel)
theorem qw_540 : (Cond.methodLink RL 29 yX4_turn) ∈ hTbl := hIn (List.mem_of_getElem? (i := 540) (by decide +kernel)) (by decide +kernel)
theorem qw_541 : (Cond.instanceMethod yX4_turn) ∈ hTbl := hIn (List.mem_of_getElem? (i := 541) (by decide +kernel)) (by decide +kernel)
theorem qw_542 : (Cond.selects RX4 yX4_turn yX4_turn) ∈ hTbl := hIn (List.mem_of_getElem? (i := 542) (by decide +kernel)) (by decide +kernel)
theorem qw_543 : (Cond.code yX4_turn cX4_turn 2 (some FieldType.int)) ∈ hTbl := hIn (List.mem_of_getElem? (i := 543) (by decide +kernel)) (by decide +kernel)
theorem qw_544 : (Cond.stringRef RX4 118 "there is no such string") ∈ lw_tbl := List.mem_of_getElem? (i := 544) (by decide +kernel)
theorem qw_545 : (Cond.methodLink RX4 120 yX3_turnAllOn) ∈ hTbl := hIn (List.mem_of_getElem? (i := 545) (by decide +kernel)) (by decide +kernel)
theorem qw_546 : (Cond.instanceMethod yX3_turnAllOn) ∈ hTbl := hIn (List.mem_of_getElem? (i := 546) (by decide +kernel)) (by decide +kernel)
theorem qw_547 : (Cond.selects RX3 yX3_turnAllOn yX3_turnAllOn) ∈ hTbl := hIn (List.mem_of_getElem? (i := 547) (by decide +kernel)) (by decide +kernel)
theorem qw_548 : (Cond.code yX3_turnAllOn cX3_turnAllOn 7 (some FieldType.int)) ∈ hTbl := hIn (List.mem_of_getElem? (i := 548) (by decide +kernel)) (by decide +kernel)
theorem qw_549 : (Cond.methodLink RX3 43 yX1_exchangeSides) ∈ hTbl := hIn (List.mem_of_getElem? (i := 549) (by decide +kernel)) (by decide +kernel)
theorem qw_550 : (Cond.instanceMethod yX1_exchangeSides) ∈ hTbl := hIn (List.mem_of_getElem? (i := 550) (by decide +kernel)) (by decide +kernel)
theorem qw_551 : (Cond.selects RX1 yX1_exchangeSides yX1_exchangeSides) ∈ hTbl := hIn (List.mem_of_getElem? (i := 551) (by decide +kernel)) (by decide +kernel)
theorem qw_552 : (Cond.code yX1_exchangeSides cX1_exchangeSides 2 none) ∈ hTbl := hIn (List.mem_of_getElem? (i := 552) (by decide +kernel)) (by decide +kernel)
theorem qw_553 : (Cond.methodLink RL 92 yL_setWindow) ∈ hTbl := hIn (List.mem_of_getElem? (i := 553) (by decide +kernel)) (by decide +kernel)
theorem qw_554 : (Cond.static yL_setWindow) ∈ hTbl := hIn (List.mem_of_getElem? (i := 554) (by decide +kernel)) (by decide +kernel)
theorem qw_555 : (Cond.codeWith yL_setWindow cL_setWindow 4 (some FieldType.int) [(0, 9, 12, 13)]) ∈ hTbl := hIn (List.mem_of_getElem? (i := 555) (by decide +kernel)) (by decide +kernel)
theorem qw_556 : (Cond.methodLink RL 33 yX4_setWindow) ∈ hTbl := hIn (List.mem_of_getElem? (i := 556) (by decide +kernel)) (by decide +kernel)
theorem qw_557 : (Cond.instanceMethod yX4_setWindow) ∈ hTbl := hIn (List.mem_of_getElem? (i := 557) (by decide +kernel)) (by decide +kernel)
theorem qw_558 : (Cond.selects RX4 yX4_setWindow yX4_setWindow) ∈ hTbl := hIn (List.mem_of_getElem? (i := 558) (by decide +kernel)) (by decide +kernel)
theorem qw_559 : (Cond.code yX4_setWindow cX4_setWindow 3 (some FieldType.int)) ∈ hTbl := hIn (List.mem_of_getElem? (i := 559) (by decide +kernel)) (by decide +kernel)
theorem qw_560 : (Cond.stringRef RX4 124 "open is not 0 to 3") ∈ lw_tbl := List.mem_of_getElem? (i := 560) (by decide +kernel)
theorem qw_561 : (Cond.methodLink RL 95 yL_order) ∈ hTbl := hIn (List.mem_of_getElem? (i := 561) (by decide +kernel)) (by decide +kernel)
theorem qw_562 : (Cond.static yL_order) ∈ hTbl := hIn (List.mem_of_getElem? (i := 562) (by decide +kernel)) (by decide +kernel)
theorem qw_563 : (Cond.codeWith yL_order cL_order 6 (some FieldType.int) [(0, 12, 15, 21), (0, 12, 19, 13), (0, 12, 23, 15)]) ∈ hTbl := hIn (List.mem_of_getElem? (i := 563) (by decide +kernel)) (by decide +kernel)
theorem qw_564 : (Cond.methodLink RL 36 yX4_order) ∈ hTbl := hIn (List.mem_of_getElem? (i := 564) (by decide +kernel)) (by decide +kernel)
theorem qw_565 : (Cond.instanceMethod yX4_order) ∈ hTbl := hIn (List.mem_of_getElem? (i := 565) (by decide +kernel)) (by decide +kernel)
theorem qw_566 : (Cond.selects RX4 yX4_order yX4_order) ∈ hTbl := hIn (List.mem_of_getElem? (i := 566) (by decide +kernel)) (by decide +kernel)
theorem qw_567 : (Cond.code yX4_order cX4_order 6 (some FieldType.int)) ∈ hTbl := hIn (List.mem_of_getElem? (i := 567) (by decide +kernel)) (by decide +kernel)
theorem qw_568 : (Cond.stringRef RX4 126 "many is not 1 to 9") ∈ lw_tbl := List.mem_of_getElem? (i := 568) (by decide +kernel)
theorem qw_569 : (Cond.stringRef RX4 128 "wet is not 0 to 60") ∈ lw_tbl := List.mem_of_getElem? (i := 569) (by decide +kernel)
theorem qw_570 : (Cond.stringRef RX4 130 "there are 6 orders") ∈ lw_tbl := List.mem_of_getElem? (i := 570) (by decide +kernel)
theorem qw_571 : (Cond.instantiable RX2 4) ∈ hTbl := hIn (List.mem_of_getElem? (i := 571) (by decide +kernel)) (by decide +kernel)
theorem qw_572 : (Cond.methodLink RX4 134 yX2_init) ∈ hTbl := hIn (List.mem_of_getElem? (i := 572) (by decide +kernel)) (by decide +kernel)
theorem qw_573 : (Cond.instanceMethod yX2_init) ∈ hTbl := hIn (List.mem_of_getElem? (i := 573) (by decide +kernel)) (by decide +kernel)
theorem qw_574 : (Cond.code yX2_init cX2_init 4 none) ∈ hTbl := hIn (List.mem_of_getElem? (i := 574) (by decide +kernel)) (by decide +kernel)
theorem qw_575 : (Cond.methodLink RX2 1 objectInit) ∈ hTbl := hIn (List.mem_of_getElem? (i := 575) (by decide +kernel)) (by decide +kernel)
theorem qw_576 : (Cond.fieldLink RX2 7 RX2 "herb" "LHerbLoft$Herb;") ∈ hTbl := hIn (List.mem_of_getElem? (i := 576) (by decide +kernel)) (by decide +kernel)
theorem qw_577 : (Cond.fieldLink RX1 28 RX2 "herb" "LHerbLoft$Herb;") ∈ hTbl := hIn (List.mem_of_getElem? (i := 577) (by decide +kernel)) (by decide +kernel)
theorem qw_578 : (Cond.fieldLink RX4 180 RX2 "herb" "LHerbLoft$Herb;") ∈ hTbl := hIn (List.mem_of_getElem? (i := 578) (by decide +kernel)) (by decide +kernel)
theorem qw_579 : (Cond.fieldLink RX2 13 RX2 "many" "I") ∈ hTbl := hIn (List.mem_of_getElem? (i := 579) (by decide +kernel)) (by decide +kernel)
theorem qw_580 : (Cond.fieldLink RX4 187 RX2 "many" "I") ∈ hTbl := hIn (List.mem_of_getElem? (i := 580) (by decide +kernel)) (by decide +kernel)
theorem qw_581 : (Cond.fieldLink RX2 17 RX2 "wet" "I") ∈ hTbl := hIn (List.mem_of_getElem? (i := 581) (by decide +kernel)) (by decide +kernel)
theorem qw_582 : (Cond.fieldLink RX1 39 RX2 "wet" "I") ∈ hTbl := hIn (List.mem_of_getElem? (i := 582) (by decide +kernel)) (by decide +kernel)
theorem qw_583 : (Cond.fieldLink RX4 190 RX2 "wet" "I") ∈ hTbl := hIn (List.mem_of_getElem? (i := 583) (by decide +kernel)) (by decide +kernel)
theorem qw_584 : (Cond.fieldLink RX2 20 RX2 "got" "I") ∈ hTbl := hIn (List.mem_of_getElem? (i := 584) (by decide +kernel)) (by decide +kernel)
theorem qw_585 : (Cond.fieldLink RX3 69 RX2 "got" "I") ∈ hTbl := hIn (List.mem_of_getElem? (i := 585) (by decide +kernel)) (by decide +kernel)
theorem qw_586 : (Cond.fieldLink RX4 193 RX2 "got" "I") ∈ hTbl := hIn (List.mem_of_getElem? (i := 586) (by decide +kernel)) (by decide +kernel)
theorem qw_596 : (Cond.methodLink RL 103 yL_pass) ∈ hTbl := hIn (List.mem_of_getElem? (i := 596) (by decide +kernel)) (by decide +kernel)
theorem qw_597 : (Cond.static yL_pass) ∈ hTbl := hIn (List.mem_of_getElem? (i := 597) (by decide +kernel)) (by decide +kernel)
theorem qw_598 : (Cond.codeWith yL_pass cL_pass 5 (some FieldType.int) [(0, 10, 13, 13)]) ∈ hTbl := hIn (List.mem_of_getElem? (i := 598) (by decide +kernel)) (by decide +kernel)
theorem qw_599 : (Cond.methodLink RL 40 yX4_pass) ∈ hTbl := hIn (List.mem_of_getElem? (i := 599) (by decide +kernel)) (by decide +kernel)
theorem qw_600 : (Cond.instanceMethod yX4_pass) ∈ hTbl := hIn (List.mem_of_getElem? (i := 600) (by decide +kernel)) (by decide +kernel)
theorem qw_601 : (Cond.selects RX4 yX4_pass yX4_pass) ∈ hTbl := hIn (List.mem_of_getElem? (i := 601) (by decide +kernel)) (by decide +kernel)
theorem qw_602 : (Cond.code yX4_pass cX4_pass 3 (some FieldType.int)) ∈ hTbl := hIn (List.mem_of_getElem? (i := 602) (by decide +kernel)) (by decide +kernel)
theorem qw_603 : (Cond.stringRef RX4 145 "days is not 1 to 60") ∈ lw_tbl := List.mem_of_getElem? (i := 603) (by decide +kernel)
theorem qw_604 : (Cond.stringRef RX4 147 "damp is not 0 to 9") ∈ lw_tbl := List.mem_of_getElem? (i := 604) (by decide +kernel)
theorem qw_605 : (Cond.methodLink RX4 149 yX3_letDaysGo) ∈ hTbl := hIn (List.mem_of_getElem? (i := 605) (by decide +kernel)) (by decide +kernel)
theorem qw_606 : (Cond.instanceMethod yX3_letDaysGo) ∈ hTbl := hIn (List.mem_of_getElem? (i := 606) (by decide +kernel)) (by decide +kernel)
theorem qw_607 : (Cond.selects RX3 yX3_letDaysGo yX3_letDaysGo) ∈ hTbl := hIn (List.mem_of_getElem? (i := 607) (by decide +kernel)) (by decide +kernel)
theorem qw_608 : (Cond.code yX3_letDaysGo cX3_letDaysGo 9 none) ∈ hTbl := hIn (List.mem_of_getElem? (i := 608) (by decide +kernel)) (by decide +kernel)
theorem qw_609 : (Cond.methodLink RX3 46 yX1_beginDay) ∈ hTbl := hIn (List.mem_of_getElem? (i := 609) (by decide +kernel)) (by decide +kernel)
theorem qw_610 : (Cond.instanceMethod yX1_beginDay) ∈ hTbl := hIn (List.mem_of_getElem? (i := 610) (by decide +kernel)) (by decide +kernel)
theorem qw_611 : (Cond.selects RX1 yX1_beginDay yX1_beginDay) ∈ hTbl := hIn (List.mem_of_getElem? (i := 611) (by decide +kernel)) (by decide +kernel)
theorem qw_612 : (Cond.code yX1_beginDay cX1_beginDay 3 none) ∈ hTbl := hIn (List.mem_of_getElem? (i := 612) (by decide +kernel)) (by decide +kernel)
theorem qw_613 : (Cond.methodLink RX1 72 Lib.Math.max.name) ∈ hTbl := hIn (List.mem_of_getElem? (i := 613) (by decide +kernel)) (by decide +kernel)
theorem qw_614 : (Cond.methodLink RX1 81 yX1_spreadsMould) ∈ hTbl := hIn (List.mem_of_getElem? (i := 614) (by decide +kernel)) (by decide +kernel)
theorem qw_616 : (Cond.instanceMethod yX1_spreadsMould) ∈ hTbl := hIn (List.mem_of_getElem? (i := 616) (by decide +kernel)) (by decide +kernel)
theorem qw_617 : (Cond.code yX1_spreadsMould cX1_spreadsMould 1 (some FieldType.boolean)) ∈ hTbl := hIn (List.mem_of_getElem? (i := 617) (by decide +kernel)) (by decide +kernel)
theorem qw_618 : (Cond.methodLink RX3 50 yX1_endDay) ∈ hTbl := hIn (List.mem_of_getElem? (i := 618) (by decide +kernel)) (by decide +kernel)
theorem qw_619 : (Cond.instanceMethod yX1_endDay) ∈ hTbl := hIn (List.mem_of_getElem? (i := 619) (by decide +kernel)) (by decide +kernel)
theorem qw_620 : (Cond.selects RX1 yX1_endDay yX1_endDay) ∈ hTbl := hIn (List.mem_of_getElem? (i := 620) (by decide +kernel)) (by decide +kernel)
theorem qw_621 : (Cond.code yX1_endDay cX1_endDay 1 none) ∈ hTbl := hIn (List.mem_of_getElem? (i := 621) (by decide +kernel)) (by decide +kernel)
theorem qw_622 : (Cond.methodLink RX1 91 Lib.Math.min.name) ∈ hTbl := hIn (List.mem_of_getElem? (i := 622) (by decide +kernel)) (by decide +kernel)
theorem qw_623 : (Cond.methodLink RL 106 yL_told) ∈ hTbl := hIn (List.mem_of_getElem? (i := 623) (by decide +kernel)) (by decide +kernel)
theorem qw_624 : (Cond.static yL_told) ∈ hTbl := hIn (List.mem_of_getElem? (i := 624) (by decide +kernel)) (by decide +kernel)
theorem qw_625 : (Cond.codeWith yL_told cL_told 6 (some FieldType.int) [(0, 12, 15, 21)]) ∈ hTbl := hIn (List.mem_of_getElem? (i := 625) (by decide +kernel)) (by decide +kernel)
theorem qw_626 : (Cond.methodLink RL 43 yX4_told) ∈ hTbl := hIn (List.mem_of_getElem? (i := 626) (by decide +kernel)) (by decide +kernel)
theorem qw_627 : (Cond.methodLink RL 109 yL_about) ∈ hTbl := hIn (List.mem_of_getElem? (i := 627) (by decide +kernel)) (by decide +kernel)
theorem qw_628 : (Cond.static yL_about) ∈ hTbl := hIn (List.mem_of_getElem? (i := 628) (by decide +kernel)) (by decide +kernel)
theorem qw_629 : (Cond.codeWith yL_about cL_about 5 (some FieldType.int) [(0, 10, 13, 21)]) ∈ hTbl := hIn (List.mem_of_getElem? (i := 629) (by decide +kernel)) (by decide +kernel)
theorem qw_630 : (Cond.methodLink RL 46 yX4_about) ∈ hTbl := hIn (List.mem_of_getElem? (i := 630) (by decide +kernel)) (by decide +kernel)
theorem qw_631 : (Cond.methodLink RL 112 yL_asked) ∈ hTbl := hIn (List.mem_of_getElem? (i := 631) (by decide +kernel)) (by decide +kernel)
theorem qw_632 : (Cond.static yL_asked) ∈ hTbl := hIn (List.mem_of_getElem? (i := 632) (by decide +kernel)) (by decide +kernel)
theorem qw_633 : (Cond.codeWith yL_asked cL_asked 5 (some FieldType.int) [(0, 10, 13, 21)]) ∈ hTbl := hIn (List.mem_of_getElem? (i := 633) (by decide +kernel)) (by decide +kernel)
theorem qw_634 : (Cond.methodLink RL 49 yX4_asked) ∈ hTbl := hIn (List.mem_of_getElem? (i := 634) (by decide +kernel)) (by decide +kernel)
theorem qw_635 : (Cond.methodLink RL 115 yL_count) ∈ hTbl := hIn (List.mem_of_getElem? (i := 635) (by decide +kernel)) (by decide +kernel)
theorem qw_636 : (Cond.static yL_count) ∈ hTbl := hIn (List.mem_of_getElem? (i := 636) (by decide +kernel)) (by decide +kernel)
theorem qw_637 : (Cond.codeWith yL_count cL_count 4 (some FieldType.int) [(0, 9, 12, 21)]) ∈ hTbl := hIn (List.mem_of_getElem? (i := 637) (by decide +kernel)) (by decide +kernel)
theorem qw_638 : (Cond.methodLink RL 52 yX4_count) ∈ hTbl := hIn (List.mem_of_getElem? (i := 638) (by decide +kernel)) (by decide +kernel)
theorem qw_639 : (Cond.methodLink RL 118 yL_until) ∈ hTbl := hIn (List.mem_of_getElem? (i := 639) (by decide +kernel)) (by decide +kernel)
theorem qw_640 : (Cond.static yL_until) ∈ hTbl := hIn (List.mem_of_getElem? (i := 640) (by decide +kernel)) (by decide +kernel)
theorem qw_641 : (Cond.codeWith yL_until cL_until 7 (some FieldType.int) [(0, 14, 17, 21), (0, 14, 21, 13)]) ∈ hTbl := hIn (List.mem_of_getElem? (i := 641) (by decide +kernel)) (by decide +kernel)
theorem qw_642 : (Cond.methodLink RL 55 yX4_until) ∈ hTbl := hIn (List.mem_of_getElem? (i := 642) (by decide +kernel)) (by decide +kernel)
theorem qw_643 : (Cond.instanceMethod yX4_until) ∈ hTbl := hIn (List.mem_of_getElem? (i := 643) (by decide +kernel)) (by decide +kernel)
theorem qw_644 : (Cond.selects RX4 yX4_until yX4_until) ∈ hTbl := hIn (List.mem_of_getElem? (i := 644) (by decide +kernel)) (by decide +kernel)
theorem qw_645 : (Cond.code yX4_until cX4_until 7 (some FieldType.int)) ∈ hTbl := hIn (List.mem_of_getElem? (i := 645) (by decide +kernel)) (by decide +kernel)
theorem qw_646 : (Cond.methodLink RX4 210 yX3_copyAllOf) ∈ hTbl := hIn (List.mem_of_getElem? (i := 646) (by decide +kernel)) (by decide +kernel)
theorem qw_647 : (Cond.instanceMethod yX3_copyAllOf) ∈ hTbl := hIn (List.mem_of_getElem? (i := 647) (by decide +kernel)) (by decide +kernel)
theorem qw_648 : (Cond.selects RX3 yX3_copyAllOf yX3_copyAllOf) ∈ hTbl := hIn (List.mem_of_getElem? (i := 648) (by decide +kernel)) (by decide +kernel)
theorem qw_649 : (Cond.code yX3_copyAllOf cX3_copyAllOf 3 none) ∈ hTbl := hIn (List.mem_of_getElem? (i := 649) (by decide +kernel)) (by decide +kernel)
theorem qw_650 : (Cond.methodLink RX3 31 yX1_copyBundleOf) ∈ hTbl := hIn (List.mem_of_getElem? (i := 650) (by decide +kernel)) (by decide +kernel)
theorem qw_651 : (Cond.methodLink RL 121 yL_foresee) ∈ hTbl := hIn (List.mem_of_getElem? (i := 651) (by decide +kernel)) (by decide +kernel)
theorem qw_652 : (Cond.static yL_foresee) ∈ hTbl := hIn (List.mem_of_getElem? (i := 652) (by decide +kernel)) (by decide +kernel)
theorem qw_653 : (Cond.codeWith yL_foresee cL_foresee 6 (some FieldType.int) [(0, 12, 15, 13), (0, 12, 19, 21)]) ∈ hTbl := hIn (List.mem_of_getElem? (i := 653) (by decide +kernel)) (by decide +kernel)
theorem qw_654 : (Cond.methodLink RL 58 yX4_foresee) ∈ hTbl := hIn (List.mem_of_getElem? (i := 654) (by decide +kernel)) (by decide +kernel)
theorem qw_655 : (Cond.instanceMethod yX4_foresee) ∈ hTbl := hIn (List.mem_of_getElem? (i := 655) (by decide +kernel)) (by decide +kernel)
theorem qw_656 : (Cond.selects RX4 yX4_foresee yX4_foresee) ∈ hTbl := hIn (List.mem_of_getElem? (i := 656) (by decide +kernel)) (by decide +kernel)
theorem qw_657 : (Cond.code yX4_foresee cX4_foresee 4 (some FieldType.int)) ∈ hTbl := hIn (List.mem_of_getElem? (i := 657) (by decide +kernel)) (by decide +kernel)
theorem qw_658 : (Cond.stringRef RX4 214 "what is not 3 or 8") ∈ lw_tbl := List.mem_of_getElem? (i := 658) (by decide +kernel)
theorem qw_659 : (Cond.methodLink RL 124 yL_advise) ∈ hTbl := hIn (List.mem_of_getElem? (i := 659) (by decide +kernel)) (by decide +kernel)
theorem qw_660 : (Cond.static yL_advise) ∈ hTbl := hIn (List.mem_of_getElem? (i := 660) (by decide +kernel)) (by decide +kernel)
theorem qw_661 : (Cond.codeWith yL_advise cL_advise 5 (some FieldType.int) [(0, 10, 13, 13)]) ∈ hTbl := hIn (List.mem_of_getElem? (i := 661) (by decide +kernel)) (by decide +kernel)
theorem qw_662 : (Cond.methodLink RL 61 yX4_advise) ∈ hTbl := hIn (List.mem_of_getElem? (i := 662) (by decide +kernel)) (by decide +kernel)
theorem qw_663 : (Cond.instanceMethod yX4_advise) ∈ hTbl := hIn (List.mem_of_getElem? (i := 663) (by decide +kernel)) (by decide +kernel)
theorem qw_664 : (Cond.selects RX4 yX4_advise yX4_advise) ∈ hTbl := hIn (List.mem_of_getElem? (i := 664) (by decide +kernel)) (by decide +kernel)
theorem qw_665 : (Cond.code yX4_advise cX4_advise 7 (some FieldType.int)) ∈ hTbl := hIn (List.mem_of_getElem? (i := 665) (by decide +kernel)) (by decide +kernel)
theorem qw_666 : (Cond.stringRef RX4 216 "days is not 1 to 30") ∈ lw_tbl := List.mem_of_getElem? (i := 666) (by decide +kernel)
theorem qw_667 : (Cond.methodLink RX4 218 yX4_scoreOfTrialBehind) ∈ hTbl := hIn (List.mem_of_getElem? (i := 667) (by decide +kernel)) (by decide +kernel)
theorem qw_669 : (Cond.instanceMethod yX4_scoreOfTrialBehind) ∈ hTbl := hIn (List.mem_of_getElem? (i := 669) (by decide +kernel)) (by decide +kernel)
theorem qw_670 : (Cond.code yX4_scoreOfTrialBehind cX4_scoreOfTrialBehind 3 (some FieldType.int)) ∈ hTbl := hIn (List.mem_of_getElem? (i := 670) (by decide +kernel)) (by decide +kernel)
theorem qw_671 : (Cond.classLink RL 65 RX6) ∈ hTbl := hIn (List.mem_of_getElem? (i := 671) (by decide +kernel)) (by decide +kernel)
theorem qw_672 : (Cond.instantiable RX6 14) ∈ hTbl := hIn (List.mem_of_getElem? (i := 672) (by decide +kernel)) (by decide +kernel)
theorem qw_673 : (Cond.methodLink RL 67 yX6_init) ∈ hTbl := hIn (List.mem_of_getElem? (i := 673) (by decide +kernel)) (by decide +kernel)
theorem qw_674 : (Cond.instanceMethod yX6_init) ∈ hTbl := hIn (List.mem_of_getElem? (i := 674) (by decide +kernel)) (by decide +kernel)
theorem qw_675 : (Cond.code yX6_init cX6_init 1 none) ∈ hTbl := hIn (List.mem_of_getElem? (i := 675) (by decide +kernel)) (by decide +kernel)
theorem qw_676 : (Cond.methodLink RX6 3 objectInit) ∈ hTbl := hIn (List.mem_of_getElem? (i := 676) (by decide +kernel)) (by decide +kernel)
theorem qw_677 : (Cond.classLink RX6 28 RX5) ∈ hTbl := hIn (List.mem_of_getElem? (i := 677) (by decide +kernel)) (by decide +kernel)
theorem qw_678 : (Cond.instantiable RX5 6) ∈ hTbl := hIn (List.mem_of_getElem? (i := 678) (by decide +kernel)) (by decide +kernel)
theorem qw_679 : (Cond.methodLink RX6 30 yX5_init) ∈ hTbl := hIn (List.mem_of_getElem? (i := 679) (by decide +kernel)) (by decide +kernel)
theorem qw_680 : (Cond.instanceMethod yX5_init) ∈ hTbl := hIn (List.mem_of_getElem? (i := 680) (by decide +kernel)) (by decide +kernel)
theorem qw_681 : (Cond.code yX5_init cX5_init 2 none) ∈ hTbl := hIn (List.mem_of_getElem? (i := 681) (by decide +kernel)) (by decide +kernel)
theorem qw_682 : (Cond.methodLink RX5 3 objectInit) ∈ hTbl := hIn (List.mem_of_getElem? (i := 682) (by decide +kernel)) (by decide +kernel)
theorem qw_683 : (Cond.fieldLink RX5 33 RX5 "day" "I") ∈ hTbl := hIn (List.mem_of_getElem? (i := 683) (by decide +kernel)) (by decide +kernel)
theorem qw_684 : (Cond.fieldLinkNest RX6 97 RX5 "day" "I" RX6) ∈ hNest := hInN (List.mem_of_getElem? (i := 684) (by decide +kernel)) (by decide +kernel)
theorem qw_685 : (Cond.fieldLink RX5 9 RX5 "herb" "[I") ∈ hTbl := hIn (List.mem_of_getElem? (i := 685) (by decide +kernel)) (by decide +kernel)
theorem qw_686 : (Cond.fieldLinkNest RX6 60 RX5 "herb" "[I" RX6) ∈ hNest := hInN (List.mem_of_getElem? (i := 686) (by decide +kernel)) (by decide +kernel)
theorem qw_687 : (Cond.fieldLink RX5 15 RX5 "front" "[I") ∈ hTbl := hIn (List.mem_of_getElem? (i := 687) (by decide +kernel)) (by decide +kernel)
theorem qw_688 : (Cond.fieldLinkNest RX6 76 RX5 "front" "[I" RX6) ∈ hNest := hInN (List.mem_of_getElem? (i := 688) (by decide +kernel)) (by decide +kernel)
theorem qw_689 : (Cond.fieldLink RX5 18 RX5 "back" "[I") ∈ hTbl := hIn (List.mem_of_getElem? (i := 689) (by decide +kernel)) (by decide +kernel)
theorem qw_690 : (Cond.fieldLinkNest RX6 79 RX5 "back" "[I" RX6) ∈ hNest := hInN (List.mem_of_getElem? (i := 690) (by decide +kernel)) (by decide +kernel)
theorem qw_691 : (Cond.fieldLink RX5 21 RX5 "wetDays" "[I") ∈ hTbl := hIn (List.mem_of_getElem? (i := 691) (by decide +kernel)) (by decide +kernel)
theorem qw_692 : (Cond.fieldLinkNest RX6 82 RX5 "wetDays" "[I" RX6) ∈ hNest := hInN (List.mem_of_getElem? (i := 692) (by decide +kernel)) (by decide +kernel)
theorem qw_693 : (Cond.fieldLink RX5 24 RX5 "mould" "[I") ∈ hTbl := hIn (List.mem_of_getElem? (i := 693) (by decide +kernel)) (by decide +kernel)
theorem qw_694 : (Cond.fieldLinkNest RX6 88 RX5 "mould" "[I" RX6) ∈ hNest := hInN (List.mem_of_getElem? (i := 694) (by decide +kernel)) (by decide +kernel)
theorem qw_708 : (Cond.arrayClass FieldType.int) ∈ hTbl := hIn (List.mem_of_getElem? (i := 708) (by decide +kernel)) (by decide +kernel)
theorem qw_709 : (Cond.fieldLink RX6 41 RX6 "thrown" "I") ∈ hTbl := hIn (List.mem_of_getElem? (i := 709) (by decide +kernel)) (by decide +kernel)
theorem qw_710 : (Cond.fieldLink RX6 63 RX6 "window" "I") ∈ hTbl := hIn (List.mem_of_getElem? (i := 710) (by decide +kernel)) (by decide +kernel)
theorem qw_711 : (Cond.fieldLink RX6 49 RX6 "herbs" "I") ∈ hTbl := hIn (List.mem_of_getElem? (i := 711) (by decide +kernel)) (by decide +kernel)
theorem qw_712 : (Cond.fieldLink RX6 9 RX6 "ease" "[I") ∈ hTbl := hIn (List.mem_of_getElem? (i := 712) (by decide +kernel)) (by decide +kernel)
theorem qw_713 : (Cond.fieldLink RX6 13 RX6 "limit" "[I") ∈ hTbl := hIn (List.mem_of_getElem? (i := 713) (by decide +kernel)) (by decide +kernel)
theorem qw_714 : (Cond.fieldLink RX6 128 RX6 "orders" "I") ∈ hTbl := hIn (List.mem_of_getElem? (i := 714) (by decide +kernel)) (by decide +kernel)
theorem qw_715 : (Cond.fieldLink RX6 16 RX6 "wanted" "[I") ∈ hTbl := hIn (List.mem_of_getElem? (i := 715) (by decide +kernel)) (by decide +kernel)
theorem qw_716 : (Cond.fieldLink RX6 19 RX6 "many" "[I") ∈ hTbl := hIn (List.mem_of_getElem? (i := 716) (by decide +kernel)) (by decide +kernel)
theorem qw_717 : (Cond.fieldLink RX6 22 RX6 "driest" "[I") ∈ hTbl := hIn (List.mem_of_getElem? (i := 717) (by decide +kernel)) (by decide +kernel)
theorem qw_718 : (Cond.fieldLink RX6 25 RX6 "got" "[I") ∈ hTbl := hIn (List.mem_of_getElem? (i := 718) (by decide +kernel)) (by decide +kernel)
theorem qw_719 : (Cond.fieldLink RX6 137 RX6 "given" "I") ∈ hTbl := hIn (List.mem_of_getElem? (i := 719) (by decide +kernel)) (by decide +kernel)
theorem qw_720 : (Cond.fieldLink RX6 31 RX6 "s" "LHerbLoftModel$State;") ∈ hTbl := hIn (List.mem_of_getElem? (i := 720) (by decide +kernel)) (by decide +kernel)
theorem qw_721 : (Cond.fieldLink RX6 35 RX6 "ahead" "LHerbLoftModel$State;") ∈ hTbl := hIn (List.mem_of_getElem? (i := 721) (by decide +kernel)) (by decide +kernel)
theorem qw_722 : (Cond.fieldLink RX6 38 RX6 "old" "LHerbLoftModel$State;") ∈ hTbl := hIn (List.mem_of_getElem? (i := 722) (by decide +kernel)) (by decide +kernel)
theorem qw_752 : (Cond.methodLink RL 74 yX6_thrown) ∈ hTbl := hIn (List.mem_of_getElem? (i := 752) (by decide +kernel)) (by decide +kernel)
theorem qw_753 : (Cond.instanceMethod yX6_thrown) ∈ hTbl := hIn (List.mem_of_getElem? (i := 753) (by decide +kernel)) (by decide +kernel)
theorem qw_754 : (Cond.selects RX6 yX6_thrown yX6_thrown) ∈ hTbl := hIn (List.mem_of_getElem? (i := 754) (by decide +kernel)) (by decide +kernel)
theorem qw_755 : (Cond.code yX6_thrown cX6_thrown 1 (some FieldType.int)) ∈ hTbl := hIn (List.mem_of_getElem? (i := 755) (by decide +kernel)) (by decide +kernel)
theorem qw_756 : (Cond.methodLink RL 73 yX6_herb) ∈ hTbl := hIn (List.mem_of_getElem? (i := 756) (by decide +kernel)) (by decide +kernel)
theorem qw_757 : (Cond.instanceMethod yX6_herb) ∈ hTbl := hIn (List.mem_of_getElem? (i := 757) (by decide +kernel)) (by decide +kernel)
theorem qw_758 : (Cond.selects RX6 yX6_herb yX6_herb) ∈ hTbl := hIn (List.mem_of_getElem? (i := 758) (by decide +kernel)) (by decide +kernel)
theorem qw_759 : (Cond.code yX6_herb cX6_herb 3 (some FieldType.int)) ∈ hTbl := hIn (List.mem_of_getElem? (i := 759) (by decide +kernel)) (by decide +kernel)
theorem qw_760 : (Cond.methodLink RX6 45 yX6_isIn) ∈ hTbl := hIn (List.mem_of_getElem? (i := 760) (by decide +kernel)) (by decide +kernel)
theorem qw_761 : (Cond.static yX6_isIn) ∈ hTbl := hIn (List.mem_of_getElem? (i := 761) (by decide +kernel)) (by decide +kernel)
theorem qw_762 : (Cond.code yX6_isIn cX6_isIn 3 (some FieldType.boolean)) ∈ hTbl := hIn (List.mem_of_getElem? (i := 762) (by decide +kernel)) (by decide +kernel)
theorem qw_763 : (Cond.methodLink RX6 104 yX6_no) ∈ hTbl := hIn (List.mem_of_getElem? (i := 763) (by decide +kernel)) (by decide +kernel)
theorem qw_765 : (Cond.instanceMethod yX6_no) ∈ hTbl := hIn (List.mem_of_getElem? (i := 765) (by decide +kernel)) (by decide +kernel)
theorem qw_766 : (Cond.code yX6_no cX6_no 2 (some FieldType.int)) ∈ hTbl := hIn (List.mem_of_getElem? (i := 766) (by decide +kernel)) (by decide +kernel)
theorem qw_767 : (Cond.methodLink RL 81 yX6_hang) ∈ hTbl := hIn (List.mem_of_getElem? (i := 767) (by decide +kernel)) (by decide +kernel)
theorem qw_768 : (Cond.instanceMethod yX6_hang) ∈ hTbl := hIn (List.mem_of_getElem? (i := 768) (by decide +kernel)) (by decide +kernel)
theorem qw_769 : (Cond.selects RX6 yX6_hang yX6_hang) ∈ hTbl := hIn (List.mem_of_getElem? (i := 769) (by decide +kernel)) (by decide +kernel)
theorem qw_770 : (Cond.code yX6_hang cX6_hang 6 (some FieldType.int)) ∈ hTbl := hIn (List.mem_of_getElem? (i := 770) (by decide +kernel)) (by decide +kernel)
theorem qw_771 : (Cond.methodLink RX6 107 yX6_isHook) ∈ hTbl := hIn (List.mem_of_getElem? (i := 771) (by decide +kernel)) (by decide +kernel)
theorem qw_772 : (Cond.static yX6_isHook) ∈ hTbl := hIn (List.mem_of_getElem? (i := 772) (by decide +kernel)) (by decide +kernel)
theorem qw_773 : (Cond.code yX6_isHook cX6_isHook 2 (some FieldType.boolean)) ∈ hTbl := hIn (List.mem_of_getElem? (i := 773) (by decide +kernel)) (by decide +kernel)
theorem qw_774 : (Cond.methodLink RX6 111 yX6_isHerb) ∈ hTbl := hIn (List.mem_of_getElem? (i := 774) (by decide +kernel)) (by decide +kernel)
theorem qw_776 : (Cond.instanceMethod yX6_isHerb) ∈ hTbl := hIn (List.mem_of_getElem? (i := 776) (by decide +kernel)) (by decide +kernel)
theorem qw_777 : (Cond.code yX6_isHerb cX6_isHerb 2 (some FieldType.boolean)) ∈ hTbl := hIn (List.mem_of_getElem? (i := 777) (by decide +kernel)) (by decide +kernel)
theorem qw_778 : (Cond.methodLink RX6 56 yX5_hangs) ∈ hTbl := hIn (List.mem_of_getElem? (i := 778) (by decide +kernel)) (by decide +kernel)
theorem qw_779 : (Cond.instanceMethod yX5_hangs) ∈ hTbl := hIn (List.mem_of_getElem? (i := 779) (by decide +kernel)) (by decide +kernel)
theorem qw_780 : (Cond.selects RX5 yX5_hangs yX5_hangs) ∈ hTbl := hIn (List.mem_of_getElem? (i := 780) (by decide +kernel)) (by decide +kernel)
theorem qw_781 : (Cond.code yX5_hangs cX5_hangs 2 (some FieldType.boolean)) ∈ hTbl := hIn (List.mem_of_getElem? (i := 781) (by decide +kernel)) (by decide +kernel)
theorem qw_782 : (Cond.methodLink RX6 114 yX5_sum) ∈ hTbl := hIn (List.mem_of_getElem? (i := 782) (by decide +kernel)) (by decide +kernel)
theorem qw_783 : (Cond.instanceMethod yX5_sum) ∈ hTbl := hIn (List.mem_of_getElem? (i := 783) (by decide +kernel)) (by decide +kernel)
theorem qw_784 : (Cond.selects RX5 yX5_sum yX5_sum) ∈ hTbl := hIn (List.mem_of_getElem? (i := 784) (by decide +kernel)) (by decide +kernel)
theorem qw_785 : (Cond.code yX5_sum cX5_sum 4 (some FieldType.int)) ∈ hTbl := hIn (List.mem_of_getElem? (i := 785) (by decide +kernel)) (by decide +kernel)
theorem qw_786 : (Cond.methodLink RX5 45 yX5_hangs) ∈ hTbl := hIn (List.mem_of_getElem? (i := 786) (by decide +kernel)) (by decide +kernel)
theorem qw_787 : (Cond.methodLink RX5 53 yX5_wetness) ∈ hTbl := hIn (List.mem_of_getElem? (i := 787) (by decide +kernel)) (by decide +kernel)
theorem qw_788 : (Cond.instanceMethod yX5_wetness) ∈ hTbl := hIn (List.mem_of_getElem? (i := 788) (by decide +kernel)) (by decide +kernel)
theorem qw_789 : (Cond.selects RX5 yX5_wetness yX5_wetness) ∈ hTbl := hIn (List.mem_of_getElem? (i := 789) (by decide +kernel)) (by decide +kernel)
theorem qw_790 : (Cond.code yX5_wetness cX5_wetness 2 (some FieldType.int)) ∈ hTbl := hIn (List.mem_of_getElem? (i := 790) (by decide +kernel)) (by decide +kernel)
theorem qw_791 : (Cond.methodLink RL 84 yX6_take) ∈ hTbl := hIn (List.mem_of_getElem? (i := 791) (by decide +kernel)) (by decide +kernel)
theorem qw_792 : (Cond.instanceMethod yX6_take) ∈ hTbl := hIn (List.mem_of_getElem? (i := 792) (by decide +kernel)) (by decide +kernel)
theorem qw_793 : (Cond.selects RX6 yX6_take yX6_take) ∈ hTbl := hIn (List.mem_of_getElem? (i := 793) (by decide +kernel)) (by decide +kernel)
theorem qw_794 : (Cond.code yX6_take cX6_take 4 (some FieldType.int)) ∈ hTbl := hIn (List.mem_of_getElem? (i := 794) (by decide +kernel)) (by decide +kernel)
theorem qw_795 : (Cond.methodLink RX6 85 yX5_wetness) ∈ hTbl := hIn (List.mem_of_getElem? (i := 795) (by decide +kernel)) (by decide +kernel)
theorem qw_796 : (Cond.methodLink RL 87 yX6_move) ∈ hTbl := hIn (List.mem_of_getElem? (i := 796) (by decide +kernel)) (by decide +kernel)
theorem qw_797 : (Cond.instanceMethod yX6_move) ∈ hTbl := hIn (List.mem_of_getElem? (i := 797) (by decide +kernel)) (by decide +kernel)
theorem qw_798 : (Cond.selects RX6 yX6_move yX6_move) ∈ hTbl := hIn (List.mem_of_getElem? (i := 798) (by decide +kernel)) (by decide +kernel)
theorem qw_799 : (Cond.code yX6_move cX6_move 7 (some FieldType.int)) ∈ hTbl := hIn (List.mem_of_getElem? (i := 799) (by decide +kernel)) (by decide +kernel)
theorem qw_800 : (Cond.methodLink RX6 117 yX5_lay) ∈ hTbl := hIn (List.mem_of_getElem? (i := 800) (by decide +kernel)) (by decide +kernel)
theorem qw_801 : (Cond.instanceMethod yX5_lay) ∈ hTbl := hIn (List.mem_of_getElem? (i := 801) (by decide +kernel)) (by decide +kernel)
theorem qw_802 : (Cond.selects RX5 yX5_lay yX5_lay) ∈ hTbl := hIn (List.mem_of_getElem? (i := 802) (by decide +kernel)) (by decide +kernel)
theorem qw_803 : (Cond.code yX5_lay cX5_lay 3 none) ∈ hTbl := hIn (List.mem_of_getElem? (i := 803) (by decide +kernel)) (by decide +kernel)
theorem qw_804 : (Cond.methodLink RX6 121 yX5_neighbours) ∈ hTbl := hIn (List.mem_of_getElem? (i := 804) (by decide +kernel)) (by decide +kernel)
theorem qw_805 : (Cond.instanceMethod yX5_neighbours) ∈ hTbl := hIn (List.mem_of_getElem? (i := 805) (by decide +kernel)) (by decide +kernel)
theorem qw_806 : (Cond.selects RX5 yX5_neighbours yX5_neighbours) ∈ hTbl := hIn (List.mem_of_getElem? (i := 806) (by decide +kernel)) (by decide +kernel)
theorem qw_807 : (Cond.code yX5_neighbours cX5_neighbours 2 (some FieldType.int)) ∈ hTbl := hIn (List.mem_of_getElem? (i := 807) (by decide +kernel)) (by decide +kernel)
theorem qw_808 : (Cond.methodLink RX5 49 yX5_beside) ∈ hTbl := hIn (List.mem_of_getElem? (i := 808) (by decide +kernel)) (by decide +kernel)
theorem qw_809 : (Cond.instanceMethod yX5_beside) ∈ hTbl := hIn (List.mem_of_getElem? (i := 809) (by decide +kernel)) (by decide +kernel)
theorem qw_810 : (Cond.selects RX5 yX5_beside yX5_beside) ∈ hTbl := hIn (List.mem_of_getElem? (i := 810) (by decide +kernel)) (by decide +kernel)
theorem qw_811 : (Cond.code yX5_beside cX5_beside 4 (some FieldType.int)) ∈ hTbl := hIn (List.mem_of_getElem? (i := 811) (by decide +kernel)) (by decide +kernel)
theorem qw_812 : (Cond.methodLinkNest RX5 41 yX6_isIn RX6) ∈ hNest := hInN (List.mem_of_getElem? (i := 812) (by decide +kernel)) (by decide +kernel)
theorem qw_813 : (Cond.methodLink RL 91 yX6_turn) ∈ hTbl := hIn (List.mem_of_getElem? (i := 813) (by decide +kernel)) (by decide +kernel)
theorem qw_814 : (Cond.instanceMethod yX6_turn) ∈ hTbl := hIn (List.mem_of_getElem? (i := 814) (by decide +kernel)) (by decide +kernel)
theorem qw_815 : (Cond.selects RX6 yX6_turn yX6_turn) ∈ hTbl := hIn (List.mem_of_getElem? (i := 815) (by decide +kernel)) (by decide +kernel)
theorem qw_816 : (Cond.code yX6_turn cX6_turn 4 (some FieldType.int)) ∈ hTbl := hIn (List.mem_of_getElem? (i := 816) (by decide +kernel)) (by decide +kernel)
theorem qw_817 : (Cond.methodLink RX6 124 yX5_turn) ∈ hTbl := hIn (List.mem_of_getElem? (i := 817) (by decide +kernel)) (by decide +kernel)
theorem qw_818 : (Cond.instanceMethod yX5_turn) ∈ hTbl := hIn (List.mem_of_getElem? (i := 818) (by decide +kernel)) (by decide +kernel)
theorem qw_819 : (Cond.selects RX5 yX5_turn yX5_turn) ∈ hTbl := hIn (List.mem_of_getElem? (i := 819) (by decide +kernel)) (by decide +kernel)
theorem qw_820 : (Cond.code yX5_turn cX5_turn 4 none) ∈ hTbl := hIn (List.mem_of_getElem? (i := 820) (by decide +kernel)) (by decide +kernel)
theorem qw_821 : (Cond.methodLink RL 94 yX6_setWindow) ∈ hTbl := hIn (List.mem_of_getElem? (i := 821) (by decide +kernel)) (by decide +kernel)
theorem qw_822 : (Cond.instanceMethod yX6_setWindow) ∈ hTbl := hIn (List.mem_of_getElem? (i := 822) (by decide +kernel)) (by decide +kernel)
theorem qw_823 : (Cond.selects RX6 yX6_setWindow yX6_setWindow) ∈ hTbl := hIn (List.mem_of_getElem? (i := 823) (by decide +kernel)) (by decide +kernel)
theorem qw_824 : (Cond.code yX6_setWindow cX6_setWindow 3 (some FieldType.int)) ∈ hTbl := hIn (List.mem_of_getElem? (i := 824) (by decide +kernel)) (by decide +kernel)
theorem qw_825 : (Cond.methodLink RL 98 yX6_order) ∈ hTbl := hIn (List.mem_of_getElem? (i := 825) (by decide +kernel)) (by decide +kernel)
theorem qw_826 : (Cond.instanceMethod yX6_order) ∈ hTbl := hIn (List.mem_of_getElem? (i := 826) (by decide +kernel)) (by decide +kernel)
theorem qw_827 : (Cond.selects RX6 yX6_order yX6_order) ∈ hTbl := hIn (List.mem_of_getElem? (i := 827) (by decide +kernel)) (by decide +kernel)
theorem qw_828 : (Cond.code yX6_order cX6_order 4 (some FieldType.int)) ∈ hTbl := hIn (List.mem_of_getElem? (i := 828) (by decide +kernel)) (by decide +kernel)
theorem qw_829 : (Cond.methodLink RL 102 yX6_fill) ∈ hTbl := hIn (List.mem_of_getElem? (i := 829) (by decide +kernel)) (by decide +kernel)
theorem qw_830 : (Cond.instanceMethod yX6_fill) ∈ hTbl := hIn (List.mem_of_getElem? (i := 830) (by decide +kernel)) (by decide +kernel)
theorem qw_831 : (Cond.selects RX6 yX6_fill yX6_fill) ∈ hTbl := hIn (List.mem_of_getElem? (i := 831) (by decide +kernel)) (by decide +kernel)
theorem qw_832 : (Cond.code yX6_fill cX6_fill 3 (some FieldType.int)) ∈ hTbl := hIn (List.mem_of_getElem? (i := 832) (by decide +kernel)) (by decide +kernel)
theorem qw_833 : (Cond.methodLink RX6 134 yX6_filled) ∈ hTbl := hIn (List.mem_of_getElem? (i := 833) (by decide +kernel)) (by decide +kernel)
theorem qw_835 : (Cond.instanceMethod yX6_filled) ∈ hTbl := hIn (List.mem_of_getElem? (i := 835) (by decide +kernel)) (by decide +kernel)
theorem qw_836 : (Cond.code yX6_filled cX6_filled 5 (some FieldType.int)) ∈ hTbl := hIn (List.mem_of_getElem? (i := 836) (by decide +kernel)) (by decide +kernel)
theorem qw_837 : (Cond.methodLink RX6 131 yX6_fits) ∈ hTbl := hIn (List.mem_of_getElem? (i := 837) (by decide +kernel)) (by decide +kernel)
theorem qw_839 : (Cond.instanceMethod yX6_fits) ∈ hTbl := hIn (List.mem_of_getElem? (i := 839) (by decide +kernel)) (by decide +kernel)
theorem qw_840 : (Cond.code yX6_fits cX6_fits 3 (some FieldType.boolean)) ∈ hTbl := hIn (List.mem_of_getElem? (i := 840) (by decide +kernel)) (by decide +kernel)
theorem qw_841 : (Cond.methodLink RL 105 yX6_pass) ∈ hTbl := hIn (List.mem_of_getElem? (i := 841) (by decide +kernel)) (by decide +kernel)
theorem qw_842 : (Cond.instanceMethod yX6_pass) ∈ hTbl := hIn (List.mem_of_getElem? (i := 842) (by decide +kernel)) (by decide +kernel)
theorem qw_843 : (Cond.selects RX6 yX6_pass yX6_pass) ∈ hTbl := hIn (List.mem_of_getElem? (i := 843) (by decide +kernel)) (by decide +kernel)
theorem qw_844 : (Cond.code yX6_pass cX6_pass 3 (some FieldType.int)) ∈ hTbl := hIn (List.mem_of_getElem? (i := 844) (by decide +kernel)) (by decide +kernel)
theorem qw_845 : (Cond.methodLink RX6 140 yX6_daysOn) ∈ hTbl := hIn (List.mem_of_getElem? (i := 845) (by decide +kernel)) (by decide +kernel)
theorem qw_847 : (Cond.instanceMethod yX6_daysOn) ∈ hTbl := hIn (List.mem_of_getElem? (i := 847) (by decide +kernel)) (by decide +kernel)
theorem qw_848 : (Cond.code yX6_daysOn cX6_daysOn 5 none) ∈ hTbl := hIn (List.mem_of_getElem? (i := 848) (by decide +kernel)) (by decide +kernel)
theorem qw_849 : (Cond.methodLink RX6 100 yX6_dayOn) ∈ hTbl := hIn (List.mem_of_getElem? (i := 849) (by decide +kernel)) (by decide +kernel)
theorem qw_851 : (Cond.instanceMethod yX6_dayOn) ∈ hTbl := hIn (List.mem_of_getElem? (i := 851) (by decide +kernel)) (by decide +kernel)
theorem qw_852 : (Cond.code yX6_dayOn cX6_dayOn 5 none) ∈ hTbl := hIn (List.mem_of_getElem? (i := 852) (by decide +kernel)) (by decide +kernel)
theorem qw_853 : (Cond.methodLink RX6 52 yX5_become) ∈ hTbl := hIn (List.mem_of_getElem? (i := 853) (by decide +kernel)) (by decide +kernel)
theorem qw_854 : (Cond.instanceMethod yX5_become) ∈ hTbl := hIn (List.mem_of_getElem? (i := 854) (by decide +kernel)) (by decide +kernel)
theorem qw_855 : (Cond.selects RX5 yX5_become yX5_become) ∈ hTbl := hIn (List.mem_of_getElem? (i := 855) (by decide +kernel)) (by decide +kernel)
theorem qw_856 : (Cond.code yX5_become cX5_become 2 none) ∈ hTbl := hIn (List.mem_of_getElem? (i := 856) (by decide +kernel)) (by decide +kernel)
theorem qw_857 : (Cond.methodLink RX5 37 yX5_copy) ∈ hTbl := hIn (List.mem_of_getElem? (i := 857) (by decide +kernel)) (by decide +kernel)
theorem qw_858 : (Cond.static yX5_copy) ∈ hTbl := hIn (List.mem_of_getElem? (i := 858) (by decide +kernel)) (by decide +kernel)
theorem qw_859 : (Cond.code yX5_copy cX5_copy 2 none) ∈ hTbl := hIn (List.mem_of_getElem? (i := 859) (by decide +kernel)) (by decide +kernel)
theorem qw_860 : (Cond.methodLink RX5 27 arraycopyName) ∈ hTbl := hIn (List.mem_of_getElem? (i := 860) (by decide +kernel)) (by decide +kernel)
theorem qw_861 : (Cond.methodLink RX6 66 yX5_wetter) ∈ hTbl := hIn (List.mem_of_getElem? (i := 861) (by decide +kernel)) (by decide +kernel)
theorem qw_862 : (Cond.instanceMethod yX5_wetter) ∈ hTbl := hIn (List.mem_of_getElem? (i := 862) (by decide +kernel)) (by decide +kernel)
theorem qw_863 : (Cond.selects RX5 yX5_wetter yX5_wetter) ∈ hTbl := hIn (List.mem_of_getElem? (i := 863) (by decide +kernel)) (by decide +kernel)
theorem qw_864 : (Cond.code yX5_wetter cX5_wetter 2 (some FieldType.int)) ∈ hTbl := hIn (List.mem_of_getElem? (i := 864) (by decide +kernel)) (by decide +kernel)
theorem qw_865 : (Cond.methodLink RX5 57 yX5_isWetter) ∈ hTbl := hIn (List.mem_of_getElem? (i := 865) (by decide +kernel)) (by decide +kernel)
theorem qw_867 : (Cond.instanceMethod yX5_isWetter) ∈ hTbl := hIn (List.mem_of_getElem? (i := 867) (by decide +kernel)) (by decide +kernel)
theorem qw_868 : (Cond.code yX5_isWetter cX5_isWetter 3 (some FieldType.int)) ∈ hTbl := hIn (List.mem_of_getElem? (i := 868) (by decide +kernel)) (by decide +kernel)
theorem qw_869 : (Cond.methodLink RX6 70 Lib.Math.max.name) ∈ hTbl := hIn (List.mem_of_getElem? (i := 869) (by decide +kernel)) (by decide +kernel)
theorem qw_870 : (Cond.methodLink RX6 91 Lib.Math.min.name) ∈ hTbl := hIn (List.mem_of_getElem? (i := 870) (by decide +kernel)) (by decide +kernel)
theorem qw_871 : (Cond.methodLink RX6 94 yX5_isBesideBad) ∈ hTbl := hIn (List.mem_of_getElem? (i := 871) (by decide +kernel)) (by decide +kernel)
theorem qw_872 : (Cond.instanceMethod yX5_isBesideBad) ∈ hTbl := hIn (List.mem_of_getElem? (i := 872) (by decide +kernel)) (by decide +kernel)
theorem qw_873 : (Cond.selects RX5 yX5_isBesideBad yX5_isBesideBad) ∈ hTbl := hIn (List.mem_of_getElem? (i := 873) (by decide +kernel)) (by decide +kernel)
theorem qw_874 : (Cond.code yX5_isBesideBad cX5_isBesideBad 2 (some FieldType.boolean)) ∈ hTbl := hIn (List.mem_of_getElem? (i := 874) (by decide +kernel)) (by decide +kernel)
theorem qw_875 : (Cond.methodLink RX5 60 yX5_isBad) ∈ hTbl := hIn (List.mem_of_getElem? (i := 875) (by decide +kernel)) (by decide +kernel)
theorem qw_877 : (Cond.instanceMethod yX5_isBad) ∈ hTbl := hIn (List.mem_of_getElem? (i := 877) (by decide +kernel)) (by decide +kernel)
theorem qw_878 : (Cond.code yX5_isBad cX5_isBad 2 (some FieldType.boolean)) ∈ hTbl := hIn (List.mem_of_getElem? (i := 878) (by decide +kernel)) (by decide +kernel)
theorem qw_879 : (Cond.methodLink RL 108 yX6_told) ∈ hTbl := hIn (List.mem_of_getElem? (i := 879) (by decide +kernel)) (by decide +kernel)
theorem qw_880 : (Cond.instanceMethod yX6_told) ∈ hTbl := hIn (List.mem_of_getElem? (i := 880) (by decide +kernel)) (by decide +kernel)
theorem qw_881 : (Cond.selects RX6 yX6_told yX6_told) ∈ hTbl := hIn (List.mem_of_getElem? (i := 881) (by decide +kernel)) (by decide +kernel)
theorem qw_882 : (Cond.code yX6_told cX6_told 4 (some FieldType.int)) ∈ hTbl := hIn (List.mem_of_getElem? (i := 882) (by decide +kernel)) (by decide +kernel)
theorem qw_883 : (Cond.methodLink RX6 144 yX6_bundleTold) ∈ hTbl := hIn (List.mem_of_getElem? (i := 883) (by decide +kernel)) (by decide +kernel)
theorem qw_885 : (Cond.instanceMethod yX6_bundleTold) ∈ hTbl := hIn (List.mem_of_getElem? (i := 885) (by decide +kernel)) (by decide +kernel)
theorem qw_886 : (Cond.code yX6_bundleTold cX6_bundleTold 3 (some FieldType.int)) ∈ hTbl := hIn (List.mem_of_getElem? (i := 886) (by decide +kernel)) (by decide +kernel)
theorem qw_887 : (Cond.methodLink RL 111 yX6_about) ∈ hTbl := hIn (List.mem_of_getElem? (i := 887) (by decide +kernel)) (by decide +kernel)
theorem qw_888 : (Cond.instanceMethod yX6_about) ∈ hTbl := hIn (List.mem_of_getElem? (i := 888) (by decide +kernel)) (by decide +kernel)
theorem qw_889 : (Cond.selects RX6 yX6_about yX6_about) ∈ hTbl := hIn (List.mem_of_getElem? (i := 889) (by decide +kernel)) (by decide +kernel)
theorem qw_890 : (Cond.code yX6_about cX6_about 3 (some FieldType.int)) ∈ hTbl := hIn (List.mem_of_getElem? (i := 890) (by decide +kernel)) (by decide +kernel)
theorem qw_891 : (Cond.methodLink RX6 147 yX6_herbTold) ∈ hTbl := hIn (List.mem_of_getElem? (i := 891) (by decide +kernel)) (by decide +kernel)
theorem qw_893 : (Cond.instanceMethod yX6_herbTold) ∈ hTbl := hIn (List.mem_of_getElem? (i := 893) (by decide +kernel)) (by decide +kernel)
theorem qw_894 : (Cond.code yX6_herbTold cX6_herbTold 7 (some FieldType.int)) ∈ hTbl := hIn (List.mem_of_getElem? (i := 894) (by decide +kernel)) (by decide +kernel)
theorem qw_895 : (Cond.methodLink RL 114 yX6_asked) ∈ hTbl := hIn (List.mem_of_getElem? (i := 895) (by decide +kernel)) (by decide +kernel)
theorem qw_896 : (Cond.instanceMethod yX6_asked) ∈ hTbl := hIn (List.mem_of_getElem? (i := 896) (by decide +kernel)) (by decide +kernel)
theorem qw_897 : (Cond.selects RX6 yX6_asked yX6_asked) ∈ hTbl := hIn (List.mem_of_getElem? (i := 897) (by decide +kernel)) (by decide +kernel)
theorem qw_898 : (Cond.code yX6_asked cX6_asked 3 (some FieldType.int)) ∈ hTbl := hIn (List.mem_of_getElem? (i := 898) (by decide +kernel)) (by decide +kernel)
theorem qw_899 : (Cond.methodLink RX6 150 yX6_orderTold) ∈ hTbl := hIn (List.mem_of_getElem? (i := 899) (by decide +kernel)) (by decide +kernel)
theorem qw_901 : (Cond.instanceMethod yX6_orderTold) ∈ hTbl := hIn (List.mem_of_getElem? (i := 901) (by decide +kernel)) (by decide +kernel)
theorem qw_902 : (Cond.code yX6_orderTold cX6_orderTold 5 (some FieldType.int)) ∈ hTbl := hIn (List.mem_of_getElem? (i := 902) (by decide +kernel)) (by decide +kernel)
theorem qw_903 : (Cond.methodLink RL 117 yX6_count) ∈ hTbl := hIn (List.mem_of_getElem? (i := 903) (by decide +kernel)) (by decide +kernel)
theorem qw_904 : (Cond.instanceMethod yX6_count) ∈ hTbl := hIn (List.mem_of_getElem? (i := 904) (by decide +kernel)) (by decide +kernel)
theorem qw_905 : (Cond.selects RX6 yX6_count yX6_count) ∈ hTbl := hIn (List.mem_of_getElem? (i := 905) (by decide +kernel)) (by decide +kernel)
theorem qw_906 : (Cond.code yX6_count cX6_count 2 (some FieldType.int)) ∈ hTbl := hIn (List.mem_of_getElem? (i := 906) (by decide +kernel)) (by decide +kernel)
theorem qw_907 : (Cond.methodLink RX6 153 yX6_counted) ∈ hTbl := hIn (List.mem_of_getElem? (i := 907) (by decide +kernel)) (by decide +kernel)
theorem qw_909 : (Cond.instanceMethod yX6_counted) ∈ hTbl := hIn (List.mem_of_getElem? (i := 909) (by decide +kernel)) (by decide +kernel)
theorem qw_910 : (Cond.code yX6_counted cX6_counted 4 (some FieldType.int)) ∈ hTbl := hIn (List.mem_of_getElem? (i := 910) (by decide +kernel)) (by decide +kernel)
theorem qw_911 : (Cond.methodLink RL 120 yX6_until) ∈ hTbl := hIn (List.mem_of_getElem? (i := 911) (by decide +kernel)) (by decide +kernel)
theorem qw_912 : (Cond.instanceMethod yX6_until) ∈ hTbl := hIn (List.mem_of_getElem? (i := 912) (by decide +kernel)) (by decide +kernel)
theorem qw_913 : (Cond.selects RX6 yX6_until yX6_until) ∈ hTbl := hIn (List.mem_of_getElem? (i := 913) (by decide +kernel)) (by decide +kernel)
theorem qw_914 : (Cond.code yX6_until cX6_until 5 (some FieldType.int)) ∈ hTbl := hIn (List.mem_of_getElem? (i := 914) (by decide +kernel)) (by decide +kernel)
theorem qw_915 : (Cond.methodLink RX6 156 yX6_untilDry) ∈ hTbl := hIn (List.mem_of_getElem? (i := 915) (by decide +kernel)) (by decide +kernel)
theorem qw_917 : (Cond.instanceMethod yX6_untilDry) ∈ hTbl := hIn (List.mem_of_getElem? (i := 917) (by decide +kernel)) (by decide +kernel)
theorem qw_918 : (Cond.code yX6_untilDry cX6_untilDry 5 (some FieldType.int)) ∈ hTbl := hIn (List.mem_of_getElem? (i := 918) (by decide +kernel)) (by decide +kernel)
theorem qw_919 : (Cond.methodLink RL 123 yX6_foresee) ∈ hTbl := hIn (List.mem_of_getElem? (i := 919) (by decide +kernel)) (by decide +kernel)
theorem qw_920 : (Cond.instanceMethod yX6_foresee) ∈ hTbl := hIn (List.mem_of_getElem? (i := 920) (by decide +kernel)) (by decide +kernel)
theorem qw_921 : (Cond.selects RX6 yX6_foresee yX6_foresee) ∈ hTbl := hIn (List.mem_of_getElem? (i := 921) (by decide +kernel)) (by decide +kernel)
theorem qw_922 : (Cond.code yX6_foresee cX6_foresee 4 (some FieldType.int)) ∈ hTbl := hIn (List.mem_of_getElem? (i := 922) (by decide +kernel)) (by decide +kernel)
theorem qw_923 : (Cond.methodLink RL 126 yX6_advise) ∈ hTbl := hIn (List.mem_of_getElem? (i := 923) (by decide +kernel)) (by decide +kernel)
theorem qw_924 : (Cond.instanceMethod yX6_advise) ∈ hTbl := hIn (List.mem_of_getElem? (i := 924) (by decide +kernel)) (by decide +kernel)
theorem qw_925 : (Cond.selects RX6 yX6_advise yX6_advise) ∈ hTbl := hIn (List.mem_of_getElem? (i := 925) (by decide +kernel)) (by decide +kernel)
theorem qw_926 : (Cond.code yX6_advise cX6_advise 3 (some FieldType.int)) ∈ hTbl := hIn (List.mem_of_getElem? (i := 926) (by decide +kernel)) (by decide +kernel)
theorem qw_927 : (Cond.methodLink RX6 163 yX6_bestString) ∈ hTbl := hIn (List.mem_of_getElem? (i := 927) (by decide +kernel)) (by decide +kernel)
theorem qw_929 : (Cond.instanceMethod yX6_bestString) ∈ hTbl := hIn (List.mem_of_getElem? (i := 929) (by decide +kernel)) (by decide +kernel)
theorem qw_930 : (Cond.code yX6_bestString cX6_bestString 7 (some FieldType.int)) ∈ hTbl := hIn (List.mem_of_getElem? (i := 930) (by decide +kernel)) (by decide +kernel)
theorem qw_931 : (Cond.methodLink RX6 160 yX6_badBehind) ∈ hTbl := hIn (List.mem_of_getElem? (i := 931) (by decide +kernel)) (by decide +kernel)
theorem qw_933 : (Cond.instanceMethod yX6_badBehind) ∈ hTbl := hIn (List.mem_of_getElem? (i := 933) (by decide +kernel)) (by decide +kernel)
theorem qw_934 : (Cond.code yX6_badBehind cX6_badBehind 4 (some FieldType.int)) ∈ hTbl := hIn (List.mem_of_getElem? (i := 934) (by decide +kernel)) (by decide +kernel)
theorem qw_935 : (Cond.methodLink RL 131 yX6_mean) ∈ hTbl := hIn (List.mem_of_getElem? (i := 935) (by decide +kernel)) (by decide +kernel)
theorem qw_936 : (Cond.instanceMethod yX6_mean) ∈ hTbl := hIn (List.mem_of_getElem? (i := 936) (by decide +kernel)) (by decide +kernel)
theorem qw_937 : (Cond.selects RX6 yX6_mean yX6_mean) ∈ hTbl := hIn (List.mem_of_getElem? (i := 937) (by decide +kernel)) (by decide +kernel)
theorem qw_938 : (Cond.code yX6_mean cX6_mean 2 (some FieldType.double)) ∈ hTbl := hIn (List.mem_of_getElem? (i := 938) (by decide +kernel)) (by decide +kernel)
theorem qw_939 : (Cond.methodLink RL 136 yX6_digest) ∈ hTbl := hIn (List.mem_of_getElem? (i := 939) (by decide +kernel)) (by decide +kernel)
theorem qw_940 : (Cond.instanceMethod yX6_digest) ∈ hTbl := hIn (List.mem_of_getElem? (i := 940) (by decide +kernel)) (by decide +kernel)
theorem qw_941 : (Cond.selects RX6 yX6_digest yX6_digest) ∈ hTbl := hIn (List.mem_of_getElem? (i := 941) (by decide +kernel)) (by decide +kernel)
theorem qw_942 : (Cond.code yX6_digest cX6_digest 5 (some FieldType.long)) ∈ hTbl := hIn (List.mem_of_getElem? (i := 942) (by decide +kernel)) (by decide +kernel)
theorem qw_943 : (Cond.constantLong RX6 166 (1831 : Int64)) ∈ hTbl := hIn (List.mem_of_getElem? (i := 943) (by decide +kernel)) (by decide +kernel)
theorem qw_944 : (Cond.constantLong RX6 168 (31 : Int64)) ∈ hTbl := hIn (List.mem_of_getElem? (i := 944) (by decide +kernel)) (by decide +kernel)
theorem qw_945 : (Cond.arrayClass FieldType.long) ∈ hTbl := hIn (List.mem_of_getElem? (i := 945) (by decide +kernel)) (by decide +kernel)
theorem qw_947 : (Cond.castable RX1 "java/lang/Object") ∈ hNest := hInN (List.mem_of_getElem? (i := 947) (by decide +kernel)) (by decide +kernel)
theorem qw_948 : (Cond.castable RX4 "java/lang/Object") ∈ hNest := hInN (List.mem_of_getElem? (i := 948) (by decide +kernel)) (by decide +kernel)
theorem qw_949 : (Cond.castable RJx4a65c "java/lang/Object") ∈ hNest := hInN (List.mem_of_getElem? (i := 949) (by decide +kernel)) (by decide +kernel)
theorem qw_950 : (Cond.castable RX3 "java/lang/Object") ∈ hNest := hInN (List.mem_of_getElem? (i := 950) (by decide +kernel)) (by decide +kernel)
theorem qw_951 : (Cond.castable RX6 "java/lang/Object") ∈ hNest := hInN (List.mem_of_getElem? (i := 951) (by decide +kernel)) (by decide +kernel)
theorem qw_952 : (Cond.castable RX5 "java/lang/Object") ∈ hNest := hInN (List.mem_of_getElem? (i := 952) (by decide +kernel)) (by decide +kernel)
theorem qw_953 : (Cond.castable "java/lang/IllegalArgumentException" "java/lang/Object") ∈ hNest := hInN (List.mem_of_getElem? (i := 953) (by decide +kernel)) (by decide +kernel)
theorem qw_954 : (Cond.castable "java/lang/IllegalStateException" "java/lang/Object") ∈ hNest := hInN (List.mem_of_getElem? (i := 954) (by decide +kernel)) (by decide +kernel)
theorem qw_955 : (Cond.castable RX0 "java/lang/Object") ∈ hNest := hInN (List.mem_of_getElem? (i := 955) (by decide +kernel)) (by decide +kernel)
theorem qw_956 : (Cond.castable "java/lang/IndexOutOfBoundsException" "java/lang/Object") ∈ hNest := hInN (List.mem_of_getElem? (i := 956) (by decide +kernel)) (by decide +kernel)
theorem qw_957 : (Cond.castable RX2 "java/lang/Object") ∈ hNest := hInN (List.mem_of_getElem? (i := 957) (by decide +kernel)) (by decide +kernel)
theorem qw_958 : (Cond.castable "java/lang/Throwable" "java/lang/Object") ∈ hNest := hInN (List.mem_of_getElem? (i := 958) (by decide +kernel)) (by decide +kernel)
theorem qw_959 : (Cond.castable RJ0 "java/lang/Object") ∈ hNest := hInN (List.mem_of_getElem? (i := 959) (by decide +kernel)) (by decide +kernel)
theorem qw_961 : (Cond.selects "[Ljava/lang/Object;" ⟨"java/lang/Object", "getClass", "()Ljava/lang/Class;"⟩ ⟨"java/lang/Object", "getClass", "()Ljava/lang/Class;"⟩) ∈ hTbl := hIn (List.mem_of_getElem? (i := 961) (by decide +kernel)) (by decide +kernel)
theorem qw_962 : (Cond.declares ⟨"java/lang/Object", "getClass", "()Ljava/lang/Class;"⟩) ∈ hNest := hInN (List.mem_of_getElem? (i := 962) (by decide +kernel)) (by decide +kernel)
theorem qw_963 : (Cond.castable "[LHerbLoft$Hook;" "java/lang/Object") ∈ hNest := hInN (List.mem_of_getElem? (i := 963) (by decide +kernel)) (by decide +kernel)
theorem qw_964 : (Cond.castable "[B" "java/lang/Object") ∈ hNest := hInN (List.mem_of_getElem? (i := 964) (by decide +kernel)) (by decide +kernel)
theorem qw_965 : (Cond.castable "[Ljava/lang/Object;" "java/lang/Object") ∈ hNest := hInN (List.mem_of_getElem? (i := 965) (by decide +kernel)) (by decide +kernel)
theorem qw_966 : (Cond.castable "[I" "java/lang/Object") ∈ hNest := hInN (List.mem_of_getElem? (i := 966) (by decide +kernel)) (by decide +kernel)
theorem qw_967 : (Cond.castable "[J" "java/lang/Object") ∈ hNest := hInN (List.mem_of_getElem? (i := 967) (by decide +kernel)) (by decide +kernel)
def hStrs : List (String × Nat × String) := [(RX4, 208, "what is not 0 to 8"), (RX4, 80, "there is no such herb"), (RX4, 176, "what is not 0 to 4"), (RX4, 178, "there is no such order"), (RX4, 73, "there is no such string or hook"), (RX4, 155, "what is not 0 to 7"), (RX4, 42, "the ease is not 1 to 9"), (RX4, 47, "the limit is not 20 to 90"), (RX4, 55, "there are 6 herbs"), (RX4, 82, "wet is not 0 to 100"), (RX4, 90, "a bundle hangs there"), (RX4, 99, "no bundle hangs there"), (RX4, 107, "no bundle hangs on the first hook"), (RX4, 109, "a bundle hangs on the second hook"), (RX4, 118, "there is no such string"), (RX4, 124, "open is not 0 to 3"), (RX4, 126, "many is not 1 to 9"), (RX4, 128, "wet is not 0 to 60"), (RX4, 130, "there are 6 orders"), (RX4, 145, "days is not 1 to 60"), (RX4, 147, "damp is not 0 to 9"), (RX4, 214, "what is not 3 or 8"), (RX4, 216, "days is not 1 to 30")]
theorem hinX0 : ∀ w ∈ u_ws RX0 TX0 3, w ∈ hTbl := by decide +kernel
theorem hinX1 : ∀ w ∈ u_ws RX1 TX1 10, w ∈ hTbl := by decide +kernel
theorem hinX2 : ∀ w ∈ u_ws RX2 TX2 4, w ∈ hTbl := by decide +kernel
theorem hinX3 : ∀ w ∈ u_ws RX3 TX3 1, w ∈ hTbl := by decide +kernel
theorem hinX4 : ∀ w ∈ u_ws RX4 TX4 6, w ∈ hTbl := by decide +kernel
theorem hinX5 : ∀ w ∈ u_ws RX5 TX5 6, w ∈ hTbl := by decide +kernel
theorem hinX6 : ∀ w ∈ u_ws RX6 TX6 14, w ∈ hTbl := by decide +kernel
theorem hinJx4a65c : ∀ w ∈ u_ws RJx4a65c TJx4a65c 3, w ∈ hTbl := by decide +kernel
end
section
/-! ===== a world is a map: addresses to cells; a cell is writable or only read ===== -/
abbrev hE : Type := Bool × va_E
abbrev hM : Type := Nat → Option hE
def hU (M : hM) (a : Nat) (e : va_E) : hM := fun q => if q = a then some (true, e) else M q
theorem hU_s (M : hM) (a : Nat) (e : va_E) : hU M a e a = some (true, e) := by simp [hU]
theorem hU_n {M : hM} {a b : Nat} {e : va_E} (h : b ≠ a) : hU M a e b = M b := by simp [hU, h]
theorem hU_2 (M : hM) (a : Nat) (e e2 : va_E) : hU (hU M a e) a e2 = hU M a e2 := by
  funext q
  by_cases h : q = a
  · simp [hU, h]
  · simp [hU, h]
theorem hU_same {M : hM} {a : Nat} {e : va_E} (h : M a = some (true, e)) : hU M a e = M := by
  funext q
  by_cases hq : q = a
  · rw [hq, hU_s, h]
  · rw [hU_n hq]
/-- what is fixed of a launch's tables: classes, slots, the array classes, ArrayList's empty array -/
abbrev hGam : Type := va_G × (Nat → ClassId) × Nat
abbrev hTys (Γ : hGam) : List (ClassId × FieldType) := [(Γ.2.1 0, .int), (Γ.2.1 1, .long), (Γ.2.1 2, .object "HerbLoft$Hook"), (Γ.2.1 3, .object "java/lang/Object")]
abbrev hK (Γ : hGam) (U : State) : Prop := va_K Γ.1 vwCl (hTys Γ) U
def hP (Γ : hGam) (M : hM) (H : Heap) : Prop := ∀ (a : Nat) (x : hE), M a = some x → va_at Γ.1 vwCl (a, x.2) H
def hA (M : hM) (sz : Nat) : Nat → Prop := fun q => (∃ e, M q = some (true, e)) ∨ sz ≤ q
def hWr (A : Nat → Prop) (M : hM) : Prop := ∀ (a : Nat) (e : va_E), M a = some (true, e) → A a
theorem hP.lt {Γ : hGam} {M : hM} {H : Heap} (h : hP Γ M H) {a : Nat} {x : hE} (ha : M a = some x) : a < H.size := (h a x ha).lt
theorem hP.fresh {Γ : hGam} {M : hM} {H : Heap} (h : hP Γ M H) {a : Nat} (ha : H.size ≤ a) : M a = none := by
  cases hm : M a with
  | none => rfl
  | some x => exact absurd (h.lt hm) (by omega)
theorem hP.kept {Γ : hGam} {M : hM} {H H1 : Heap} (h : hP Γ M H) (hq : ∀ q, q < H.size → H1[q]? = H[q]?) : hP Γ M H1 := fun a x hx => (h a x hx).kept (hq a (h.lt hx))
theorem hP.put {Γ : hGam} {M : hM} {H H1 : Heap} (h : hP Γ M H) {a : Nat} {e : va_E} (he : va_at Γ.1 vwCl (a, e) H1) (oq : ∀ q : Nat, q ≠ a → H1[q]? = H[q]?) : hP Γ (hU M a e) H1 := by
  intro b x hx
  by_cases hb : b = a
  · subst hb
    rw [hU_s] at hx
    cases hx
    exact he
  · rw [hU_n hb] at hx
    exact (h b x hx).kept (oq b hb)
theorem hWr.put {A : Nat → Prop} {M : hM} (h : hWr A M) {a : Nat} {e : va_E} (ha : A a) : hWr A (hU M a e) := by
  intro b e' hb
  by_cases hba : b = a
  · rw [hba]; exact ha
  · rw [hU_n hba] at hb; exact h b e' hb
theorem hP.one {Γ : hGam} {M : hM} {H : Heap} (h : hP Γ M H) {a : Nat} {w : Bool} {e : va_E} (ha : M a = some (w, e)) : va_P Γ.1 vwCl [(a, e)] H := by
  intro k q hk
  have hz : k < 1 := (List.getElem?_eq_some_iff.mp hk).1
  rw [show k = 0 by omega] at hk
  cases hk
  exact h a _ ha
/-! what of the start stays true beside the world: statics, text constants, links inside a nest -/
def hX (Γ : hGam) (A : Nat → Prop) (U : State) (H : Heap) : Prop :=
  va_Z "java/util/ArrayList" "DEFAULTCAPACITY_EMPTY_ELEMENTDATA" "[Ljava/lang/Object;" (.ref Γ.2.2) A U H ∧
  vx_Zq Bundle.tN "UNASSIGNED_STACK" Bundle.steD A U H ∧ vx_Zq Bundle.tN "SUPPRESSED_SENTINEL" Bundle.listD A U H ∧
  (∀ q ∈ hStrs, ∃ sa : Nat, vk_R q.1 q.2.1 q.2.2 sa U) ∧ (∀ w ∈ hNest, va_Nw w U) ∧ va_AO "HerbLoft$Hook" U ∧ va_AO "java/lang/Object" U
theorem hX.narrow {Γ : hGam} {A B : Nat → Prop} {U : State} {H : Heap} (h : hX Γ A U H) (hAB : ∀ q, B q → A q) : hX Γ B U H :=
  ⟨h.1.narrow hAB, h.2.1.narrow hAB, h.2.2.1.narrow hAB, h.2.2.2⟩
theorem hX.kept {Γ : hGam} {A : Nat → Prop} {U : State} {H H1 : Heap} (h : hX Γ A U H) (hq : ∀ a : Nat, a < H.size → ¬ A a → H1[a]? = H[a]?) : hX Γ A U H1 :=
  ⟨h.1.kept hq, h.2.1.kept hq, h.2.2.1.kept hq, h.2.2.2⟩
theorem hX.warm {Γ : hGam} {A : Nat → Prop} {s U : State} {H : Heap} (hW : s.WarmedH U.vm) (h : hX Γ A s H) : hX Γ A U H :=
  ⟨h.1.moved hW.alike, h.2.1.moved hW.alike, h.2.2.1.moved hW.alike, fun q hq => (h.2.2.2.1 q hq).imp fun _ hs => vk_R.warm hW hs, fun w hw => hNest_warm hW w hw (h.2.2.2.2.1 w hw), va_AO.moved hW.alike h.2.2.2.2.2.1, va_AO.moved hW.alike h.2.2.2.2.2.2⟩
/-! ===== a method's standing ===== -/
abbrev hCtx : Type := Program × Launch × Env × Room × State × MethodId × Array Value × List Frame × Method × Code
abbrev kP (k : hCtx) : Program := k.1
abbrev kL (k : hCtx) : Launch := k.2.1
abbrev kE (k : hCtx) : Env := k.2.2.1
abbrev kR (k : hCtx) : Room := k.2.2.2.1
abbrev kS (k : hCtx) : State := k.2.2.2.2.1
abbrev kM (k : hCtx) : MethodId := k.2.2.2.2.2.1
abbrev kA (k : hCtx) : Array Value := k.2.2.2.2.2.2.1
abbrev kB (k : hCtx) : List Frame := k.2.2.2.2.2.2.2.1
abbrev kT (k : hCtx) : Method := k.2.2.2.2.2.2.2.2.1
abbrev kC (k : hCtx) : Code := k.2.2.2.2.2.2.2.2.2
def hC (Γ : hGam) (l : Launch) (k : hCtx) (own nm : String) (cc : ByteArray) (nL : Nat) (ret : Option FieldType) (rm : Room) (A : Nat → Prop) : Prop :=
  (kP k).tables.exec = Jvm.exec ∧ (kC k).code = cc ∧ (kC k).maxLocals = nL ∧ (kS k).vm.findClass own = some (kM k).cls ∧ (∀ w ∈ hTbl, w.before (kA k) (kS k) = true) ∧ hK Γ (kS k) ∧ hX Γ A (kS k) (kS k).heap ∧ (∀ q, (kS k).heap.size ≤ q → A q) ∧ (kT k).locks = false ∧ kR k = rm ∧ kL k = l ∧ (kT k).name = nm ∧ (kT k).sig.returnType = ret
section hCs
variable {Γ : hGam} {l : Launch} {k : hCtx} {own nm : String} {cc : ByteArray} {nL : Nat} {ret : Option FieldType} {rm : Room} {A : Nat → Prop}
theorem hC.ex (C : hC Γ l k own nm cc nL ret rm A) : (kP k).tables.exec = Jvm.exec := C.1
theorem hC.cd (C : hC Γ l k own nm cc nL ret rm A) : (kC k).code = cc := C.2.1
theorem hC.ml (C : hC Γ l k own nm cc nL ret rm A) : (kC k).maxLocals = nL := C.2.2.1
theorem hC.ow (C : hC Γ l k own nm cc nL ret rm A) : (kS k).vm.findClass own = some (kM k).cls := C.2.2.2.1
theorem hC.ts (C : hC Γ l k own nm cc nL ret rm A) : ∀ w ∈ hTbl, w.before (kA k) (kS k) = true := C.2.2.2.2.1
theorem hC.hk (C : hC Γ l k own nm cc nL ret rm A) : hK Γ (kS k) := C.2.2.2.2.2.1
theorem hC.hx (C : hC Γ l k own nm cc nL ret rm A) : hX Γ A (kS k) (kS k).heap := C.2.2.2.2.2.2.1
theorem hC.ha (C : hC Γ l k own nm cc nL ret rm A) : ∀ q, (kS k).heap.size ≤ q → A q := C.2.2.2.2.2.2.2.1
theorem hC.lk (C : hC Γ l k own nm cc nL ret rm A) : (kT k).locks = false := C.2.2.2.2.2.2.2.2.1
theorem hC.ro (C : hC Γ l k own nm cc nL ret rm A) : kR k = rm := C.2.2.2.2.2.2.2.2.2.1
theorem hC.la (C : hC Γ l k own nm cc nL ret rm A) : kL k = l := C.2.2.2.2.2.2.2.2.2.2.1
theorem hC.na (C : hC Γ l k own nm cc nL ret rm A) : (kT k).name = nm := C.2.2.2.2.2.2.2.2.2.2.2.1
theorem hC.re (C : hC Γ l k own nm cc nL ret rm A) : (kT k).sig.returnType = ret := C.2.2.2.2.2.2.2.2.2.2.2.2
end hCs
/-- the locals by their places; a place of which nothing is known is none -/
def hLoc (ls : Array Slot) (L : List (Option Value)) : Prop := ls.size = L.length ∧ lv_wf ls ∧ ∀ (i : Nat) (v : Value), L[i]? = some (some v) → ls[i]? = some (.val v)
def hG (Γ : hGam) (k : hCtx) (A : Nat → Prop) (Q : State → Prop) (M : hM) (n z pc : Nat) (L : List (Option Value)) (st : List Value) : Prop :=
  ∀ (H : Heap) (locs : List Loc) (ls : Array Slot), hP Γ M H → hWr A M → va_S A (kS k).heap H locs → hLoc ls L →
    W (kP k) (kL k) (kE k) (kR k) (kS k) (kM k) (kA k) (kB k) (kT k) (kC k) H locs n z Q (F0 (kM k) pc ls st)
def hLv (L : List (Option Value)) : List (Nat × Value) := (List.range L.length).filterMap (fun i => (L[i]?.join).map (fun v => (i, v)))
theorem hLv_mem {L : List (Option Value)} {i : Nat} {v : Value} (h : L[i]? = some (some v)) : (i, v) ∈ hLv L := by
  refine List.mem_filterMap.mpr ⟨i, List.mem_range.mpr (List.getElem?_eq_some_iff.mp h).1, ?_⟩
  rw [h]; rfl
theorem hLv_of {L : List (Option Value)} {q : Nat × Value} (h : q ∈ hLv L) : L[q.1]? = some (some q.2) := by
  obtain ⟨i, -, hi⟩ := List.mem_filterMap.mp h
  cases hl : L[i]? with
  | none => rw [hl] at hi; cases hi
  | some o =>
    cases o with
    | none => rw [hl] at hi; cases hi
    | some v =>
      rw [hl] at hi
      have : (i, v) = q := by simpa using hi
      rw [← this]; exact hl
theorem hLoc.has {ls : Array Slot} {L : List (Option Value)} (h : hLoc ls L) : lv_has ls L.length (hLv L) := ⟨h.1, h.2.1, fun q hq => h.2.2 q.1 q.2 (hLv_of hq)⟩
/-- no wide value stands there -/
def hNw : Option Value → Bool
  | some (.long _) => false
  | some (.double _) => false
  | _ => true
theorem hNw_cat {v : Value} (h : hNw (some v) = true) : (v.category == 2) = false := by
  cases v <;> first | rfl | (simp [hNw] at h)
def hPrev (L : List (Option Value)) : Nat → Bool
  | 0 => true
  | j + 1 => match L[j]? with
    | some o => hNw o
    | none => true
theorem hLoc.store {ls' : Array Slot} {L : List (Option Value)} {i : Nat} {v : Value} (hp : hPrev L i = true)
    (h : lv_has ls' L.length ((i, v) :: (hLv L).filter (fun q => !(q.1 == i) && !(q.1 + 1 == i && q.2.category == 2)))) : hLoc ls' (L.set i (some v)) := by
  refine ⟨by rw [List.length_set]; exact h.1, h.2.1, fun j w hw => ?_⟩
  by_cases hj : j = i
  · subst hj
    have hlt : j < L.length := by
      have := (List.getElem?_eq_some_iff.mp hw).1
      rwa [List.length_set] at this
    rw [List.getElem?_set_self hlt] at hw
    cases hw
    exact h.2.2 (j, v) List.mem_cons_self
  · rw [List.getElem?_set_ne (Ne.symm hj)] at hw
    refine h.2.2 (j, w) (List.mem_cons_of_mem _ (List.mem_filter.mpr ⟨hLv_mem hw, ?_⟩))
    have h1 : (j == i) = false := by simpa using hj
    show (!(j == i) && !(j + 1 == i && w.category == 2)) = true
    rw [h1]
    by_cases hji : j + 1 = i
    · subst hji
      have h2 : hNw (some w) = true := by
        have hp' : (match L[j]? with | some o => hNw o | none => true) = true := hp
        rw [hw] at hp'
        exact hp'
      rw [hNw_cat h2]; simp
    · have h3 : (j + 1 == i) = false := by simpa using hji
      rw [h3]; rfl
theorem hLoc.store2 {ls' : Array Slot} {L : List (Option Value)} {i : Nat} {v : Value} (hp : hPrev L i = true)
    (h : lv_has ls' L.length ((i, v) :: (hLv L).filter (fun q => !(q.1 == i) && (!(q.1 == i + 1) && !(q.1 + 1 == i && q.2.category == 2))))) : hLoc ls' ((L.set i (some v)).set (i + 1) none) := by
  refine ⟨by rw [List.length_set, List.length_set]; exact h.1, h.2.1, fun j w hw => ?_⟩
  by_cases hj1 : j = i + 1
  · subst hj1
    have hlt := (List.getElem?_eq_some_iff.mp hw).1
    rw [List.length_set] at hlt
    rw [List.getElem?_set_self hlt] at hw
    cases hw
  · rw [List.getElem?_set_ne (Ne.symm hj1)] at hw
    by_cases hj : j = i
    · subst hj
      have hlt : j < L.length := by
        have := (List.getElem?_eq_some_iff.mp hw).1
        rwa [List.length_set] at this
      rw [List.getElem?_set_self hlt] at hw
      cases hw
      exact h.2.2 (j, v) List.mem_cons_self
    · rw [List.getElem?_set_ne (Ne.symm hj)] at hw
      refine h.2.2 (j, w) (List.mem_cons_of_mem _ (List.mem_filter.mpr ⟨hLv_mem hw, ?_⟩))
      have h1 : (j == i) = false := by simpa using hj
      have h0 : (j == i + 1) = false := by simpa using hj1
      show (!(j == i) && (!(j == i + 1) && !(j + 1 == i && w.category == 2))) = true
      rw [h1, h0]
      by_cases hji : j + 1 = i
      · subst hji
        have h2 : hNw (some w) = true := by
          have hp' : (match L[j]? with | some o => hNw o | none => true) = true := hp
          rw [hw] at hp'
          exact hp'
        rw [hNw_cat h2]; simp
      · have h3 : (j + 1 == i) = false := by simpa using hji
        rw [h3]; rfl
theorem hLoc.weak {ls : Array Slot} {L L' : List (Option Value)} (h : hLoc ls L) (hn : L'.length = L.length) (hl : ∀ (i : Nat) (v : Value), L'[i]? = some (some v) → L[i]? = some (some v)) : hLoc ls L' := ⟨h.1.trans hn.symm, h.2.1, fun i v hv => h.2.2 i v (hl i v hv)⟩
end
section
section hRows
variable {Γ : hGam} {l : Launch} {k : hCtx} {own nm : String} {cc : ByteArray} {nL : Nat} {ret : Option FieldType} {rm : Room} {A : Nat → Prop} {Q : State → Prop} {M : hM} {n z pc : Nat} {L : List (Option Value)} {st : List Value}
def hRef (v : Value) : Prop := v = .null ∨ ∃ a, v = .ref a
theorem hRef_n : hRef .null := Or.inl rfl
theorem hRef_r (a : Nat) : hRef (.ref a) := Or.inr ⟨a, rfl⟩
theorem hRef_o (o : Option Nat) : hRef (va_rf o) := va_rf_or o
theorem hRef.cat {v : Value} (h : hRef v) : v.category = 1 := by
  rcases h with rfl | ⟨a, rfl⟩ <;> rfl
/-- fewer is known of the locals -/
theorem g_weak {L L' : List (Option Value)} (hn : L'.length = L.length) (hl : ∀ (i : Nat) (v : Value), L'[i]? = some (some v) → L[i]? = some (some v)) (kk : hG Γ k A Q M n z pc L' st) : hG Γ k A Q M n z pc L st :=
  fun H locs ls h1 h2 h3 h4 => kk H locs ls h1 h2 h3 (h4.weak hn hl)
theorem g_widen {n' z' : Nat} (hn : n ≤ n') (hz : z ≤ z') (kk : hG Γ k A Q M n' z' pc L st) : hG Γ k A Q M n z pc L st :=
  fun H locs ls h1 h2 h3 h4 => W.widen hn hz (kk H locs ls h1 h2 h3 h4)
theorem g_iconst {q : Nat} {i : Int} (v : Int32) (C : hC Γ l k own nm cc nL ret rm A) (d : decode cc pc = .ok (.iconst i, 1)) (hv : Int32.ofInt i = v) (hq : pc + 1 = q) (kk : hG Γ k A Q M n z q L (.int v :: st)) : hG Γ k A Q M n z pc L (st) := by
  subst hq
  intro H locs ls h1 h2 h3 h4
  exact lv_iconst C.ex C.cd d hv (kk H locs ls h1 h2 h3 h4)
theorem g_bipush {q : Nat} {i : Int} (v : Int32) (C : hC Γ l k own nm cc nL ret rm A) (d : decode cc pc = .ok (.bipush i, 2)) (hv : (Int8.ofInt i).toInt32 = v) (hq : pc + 2 = q) (kk : hG Γ k A Q M n z q L (.int v :: st)) : hG Γ k A Q M n z pc L (st) := by
  subst hq
  intro H locs ls h1 h2 h3 h4
  exact lv_bipush C.ex C.cd d hv (kk H locs ls h1 h2 h3 h4)
theorem g_sipush {q : Nat} {i : Int} (v : Int32) (C : hC Γ l k own nm cc nL ret rm A) (d : decode cc pc = .ok (.sipush i, 3)) (hv : (Int16.ofInt i).toInt32 = v) (hq : pc + 3 = q) (kk : hG Γ k A Q M n z q L (.int v :: st)) : hG Γ k A Q M n z pc L (st) := by
  subst hq
  intro H locs ls h1 h2 h3 h4
  exact lv_sipush C.ex C.cd d hv (kk H locs ls h1 h2 h3 h4)
theorem g_ldc2 {q : Nat} {i : Nat} {v : Int64} (C : hC Γ l k own nm cc nL ret rm A) (d : decode cc pc = .ok (.ldc2_w i, 3)) (hw : Cond.constantLong own i v ∈ hTbl) (hq : pc + 3 = q) (kk : hG Γ k A Q M n z q L (.long v :: st)) : hG Γ k A Q M n z pc L (st) := by
  subst hq
  intro H locs ls h1 h2 h3 h4
  exact lv_ldc2 C.ex C.cd C.ow (C.ts _ hw) d (kk H locs ls h1 h2 h3 h4)
theorem g_null {q : Nat}  (C : hC Γ l k own nm cc nL ret rm A) (d : decode cc pc = .ok (.aconst_null, 1))  (hq : pc + 1 = q) (kk : hG Γ k A Q M n z q L (.null :: st)) : hG Γ k A Q M n z pc L (st) := by
  subst hq
  intro H locs ls h1 h2 h3 h4
  exact lv_null C.ex C.cd d (kk H locs ls h1 h2 h3 h4)
theorem g_iload_n {q : Nat} {f : Fin 4} {x : Int32} (C : hC Γ l k own nm cc nL ret rm A) (d : decode cc pc = .ok (.iload_n f, 1)) (hl : L[(f : Nat)]? = some (some (.int x))) (hq : pc + 1 = q) (kk : hG Γ k A Q M n z q L (.int x :: st)) : hG Γ k A Q M n z pc L (st) := by
  subst hq
  intro H locs ls h1 h2 h3 h4
  exact lv_iload_n C.ex C.cd d rfl (h4.2.2 _ _ hl) (kk H locs ls h1 h2 h3 h4)
theorem g_iload {q : Nat} {i : Nat} {x : Int32} (C : hC Γ l k own nm cc nL ret rm A) (d : decode cc pc = .ok (.iload i, 2)) (hl : L[i]? = some (some (.int x))) (hq : pc + 2 = q) (kk : hG Γ k A Q M n z q L (.int x :: st)) : hG Γ k A Q M n z pc L (st) := by
  subst hq
  intro H locs ls h1 h2 h3 h4
  exact lv_iload C.ex C.cd d (h4.2.2 _ _ hl) (kk H locs ls h1 h2 h3 h4)
theorem g_lload_n {q : Nat} {f : Fin 4} {x : Int64} (C : hC Γ l k own nm cc nL ret rm A) (d : decode cc pc = .ok (.lload_n f, 1)) (hl : L[(f : Nat)]? = some (some (.long x))) (hq : pc + 1 = q) (kk : hG Γ k A Q M n z q L (.long x :: st)) : hG Γ k A Q M n z pc L (st) := by
  subst hq
  intro H locs ls h1 h2 h3 h4
  exact lv_lload_n C.ex C.cd d rfl (h4.2.2 _ _ hl) (kk H locs ls h1 h2 h3 h4)
theorem g_lload {q : Nat} {i : Nat} {x : Int64} (C : hC Γ l k own nm cc nL ret rm A) (d : decode cc pc = .ok (.lload i, 2)) (hl : L[i]? = some (some (.long x))) (hq : pc + 2 = q) (kk : hG Γ k A Q M n z q L (.long x :: st)) : hG Γ k A Q M n z pc L (st) := by
  subst hq
  intro H locs ls h1 h2 h3 h4
  exact lv_lload C.ex C.cd d (h4.2.2 _ _ hl) (kk H locs ls h1 h2 h3 h4)
theorem g_dload_n {q : Nat} {f : Fin 4} {x : UInt64} (C : hC Γ l k own nm cc nL ret rm A) (d : decode cc pc = .ok (.dload_n f, 1)) (hl : L[(f : Nat)]? = some (some (.double x))) (hq : pc + 1 = q) (kk : hG Γ k A Q M n z q L (.double x :: st)) : hG Γ k A Q M n z pc L (st) := by
  subst hq
  intro H locs ls h1 h2 h3 h4
  exact lv_dload_n C.ex C.cd d rfl (h4.2.2 _ _ hl) (kk H locs ls h1 h2 h3 h4)
theorem g_dload {q : Nat} {i : Nat} {x : UInt64} (C : hC Γ l k own nm cc nL ret rm A) (d : decode cc pc = .ok (.dload i, 2)) (hl : L[i]? = some (some (.double x))) (hq : pc + 2 = q) (kk : hG Γ k A Q M n z q L (.double x :: st)) : hG Γ k A Q M n z pc L (st) := by
  subst hq
  intro H locs ls h1 h2 h3 h4
  exact lv_dload C.ex C.cd d (h4.2.2 _ _ hl) (kk H locs ls h1 h2 h3 h4)
theorem g_aload_n {q : Nat} {f : Fin 4} {v : Value} (C : hC Γ l k own nm cc nL ret rm A) (d : decode cc pc = .ok (.aload_n f, 1)) (hl : L[(f : Nat)]? = some (some v)) (hv : hRef v) (hq : pc + 1 = q) (kk : hG Γ k A Q M n z q L (v :: st)) : hG Γ k A Q M n z pc L st := by
  subst hq
  intro H locs ls h1 h2 h3 h4
  rcases hv with rfl | ⟨a, rfl⟩
  · exact lv_aload_nN C.ex C.cd d rfl (h4.2.2 _ _ hl) (kk H locs ls h1 h2 h3 h4)
  · exact lv_aload_n C.ex C.cd d rfl (h4.2.2 _ _ hl) (kk H locs ls h1 h2 h3 h4)
theorem g_aload {q : Nat} {i : Nat} {v : Value} (C : hC Γ l k own nm cc nL ret rm A) (d : decode cc pc = .ok (.aload i, 2)) (hl : L[i]? = some (some v)) (hv : hRef v) (hq : pc + 2 = q) (kk : hG Γ k A Q M n z q L (v :: st)) : hG Γ k A Q M n z pc L st := by
  subst hq
  intro H locs ls h1 h2 h3 h4
  rcases hv with rfl | ⟨a, rfl⟩
  · exact lv_aloadN C.ex C.cd d (h4.2.2 _ _ hl) (kk H locs ls h1 h2 h3 h4)
  · exact lv_aload C.ex C.cd d (h4.2.2 _ _ hl) (kk H locs ls h1 h2 h3 h4)
theorem hst_lt {ls : Array Slot} {L : List (Option Value)} {i : Nat} (h : i < L.length) (h4 : hLoc ls L) : i < L.length := h
theorem gx_istore_n {q i : Nat} {L' : List (Option Value)} {f : Fin 4} {x : Int32} (C : hC Γ l k own nm cc nL ret rm A) (d : decode cc pc = .ok (.istore_n f, 1)) (hf : (f : Nat) = i) (hlt : i < L.length) (hp : hPrev L i = true) (hL : L.set i (some (.int x)) = L') (hq : pc + 1 = q) (kk : hG Γ k A Q M n z q L' st) : hG Γ k A Q M n z pc L (.int x :: st) := by
  subst hq; subst hL
  intro H locs ls h1 h2 h3 h4
  exact lv_istore_n C.ex C.cd d hf h4.has hlt rfl (fun ls' hl' => kk H locs ls' h1 h2 h3 (hLoc.store hp hl'))
theorem gx_istore {q i : Nat} {L' : List (Option Value)} {x : Int32} (C : hC Γ l k own nm cc nL ret rm A) (d : decode cc pc = .ok (.istore i, 2)) (hlt : i < L.length) (hp : hPrev L i = true) (hL : L.set i (some (.int x)) = L') (hq : pc + 2 = q) (kk : hG Γ k A Q M n z q L' st) : hG Γ k A Q M n z pc L (.int x :: st) := by
  subst hq; subst hL
  intro H locs ls h1 h2 h3 h4
  exact lv_istore C.ex C.cd d h4.has hlt rfl (fun ls' hl' => kk H locs ls' h1 h2 h3 (hLoc.store hp hl'))
theorem gx_lstore_n {q i : Nat} {L' : List (Option Value)} {f : Fin 4} {x : Int64} (C : hC Γ l k own nm cc nL ret rm A) (d : decode cc pc = .ok (.lstore_n f, 1)) (hf : (f : Nat) = i) (hlt : i + 1 < L.length) (hp : hPrev L i = true) (hL : (L.set i (some (.long x))).set (i + 1) none = L') (hq : pc + 1 = q) (kk : hG Γ k A Q M n z q L' st) : hG Γ k A Q M n z pc L (.long x :: st) := by
  subst hq; subst hL
  intro H locs ls h1 h2 h3 h4
  exact lv_lstore_n C.ex C.cd d hf h4.has hlt rfl (fun ls' hl' => kk H locs ls' h1 h2 h3 (hLoc.store2 hp hl'))
theorem gx_lstore {q i : Nat} {L' : List (Option Value)} {x : Int64} (C : hC Γ l k own nm cc nL ret rm A) (d : decode cc pc = .ok (.lstore i, 2)) (hlt : i + 1 < L.length) (hp : hPrev L i = true) (hL : (L.set i (some (.long x))).set (i + 1) none = L') (hq : pc + 2 = q) (kk : hG Γ k A Q M n z q L' st) : hG Γ k A Q M n z pc L (.long x :: st) := by
  subst hq; subst hL
  intro H locs ls h1 h2 h3 h4
  exact lv_lstore C.ex C.cd d h4.has hlt rfl (fun ls' hl' => kk H locs ls' h1 h2 h3 (hLoc.store2 hp hl'))
theorem gx_dstore_n {q i : Nat} {L' : List (Option Value)} {f : Fin 4} {x : UInt64} (C : hC Γ l k own nm cc nL ret rm A) (d : decode cc pc = .ok (.dstore_n f, 1)) (hf : (f : Nat) = i) (hlt : i + 1 < L.length) (hp : hPrev L i = true) (hL : (L.set i (some (.double x))).set (i + 1) none = L') (hq : pc + 1 = q) (kk : hG Γ k A Q M n z q L' st) : hG Γ k A Q M n z pc L (.double x :: st) := by
  subst hq; subst hL
  intro H locs ls h1 h2 h3 h4
  exact lv_dstore_n C.ex C.cd d hf h4.has hlt rfl (fun ls' hl' => kk H locs ls' h1 h2 h3 (hLoc.store2 hp hl'))
theorem gx_dstore {q i : Nat} {L' : List (Option Value)} {x : UInt64} (C : hC Γ l k own nm cc nL ret rm A) (d : decode cc pc = .ok (.dstore i, 2)) (hlt : i + 1 < L.length) (hp : hPrev L i = true) (hL : (L.set i (some (.double x))).set (i + 1) none = L') (hq : pc + 2 = q) (kk : hG Γ k A Q M n z q L' st) : hG Γ k A Q M n z pc L (.double x :: st) := by
  subst hq; subst hL
  intro H locs ls h1 h2 h3 h4
  exact lv_dstore C.ex C.cd d h4.has hlt rfl (fun ls' hl' => kk H locs ls' h1 h2 h3 (hLoc.store2 hp hl'))
theorem gx_astore_n {q i : Nat} {L' : List (Option Value)} {f : Fin 4} {v : Value} (C : hC Γ l k own nm cc nL ret rm A) (d : decode cc pc = .ok (.astore_n f, 1)) (hf : (f : Nat) = i) (hv : hRef v) (hlt : i < L.length) (hp : hPrev L i = true) (hL : L.set i (some v) = L') (hq : pc + 1 = q) (kk : hG Γ k A Q M n z q L' st) : hG Γ k A Q M n z pc L (v :: st) := by
  subst hq; subst hL
  intro H locs ls h1 h2 h3 h4
  rcases hv with rfl | ⟨a, rfl⟩
  · exact lv_astore_nN C.ex C.cd d hf h4.has hlt rfl (fun ls' hl' => kk H locs ls' h1 h2 h3 (hLoc.store hp hl'))
  · exact lv_astore_n C.ex C.cd d hf h4.has hlt rfl (fun ls' hl' => kk H locs ls' h1 h2 h3 (hLoc.store hp hl'))
theorem gx_astore {q i : Nat} {L' : List (Option Value)} {v : Value} (C : hC Γ l k own nm cc nL ret rm A) (d : decode cc pc = .ok (.astore i, 2)) (hv : hRef v) (hlt : i < L.length) (hp : hPrev L i = true) (hL : L.set i (some v) = L') (hq : pc + 2 = q) (kk : hG Γ k A Q M n z q L' st) : hG Γ k A Q M n z pc L (v :: st) := by
  subst hq; subst hL
  intro H locs ls h1 h2 h3 h4
  rcases hv with rfl | ⟨a, rfl⟩
  · exact lv_astoreN C.ex C.cd d h4.has hlt rfl (fun ls' hl' => kk H locs ls' h1 h2 h3 (hLoc.store hp hl'))
  · exact lv_astore C.ex C.cd d h4.has hlt rfl (fun ls' hl' => kk H locs ls' h1 h2 h3 (hLoc.store hp hl'))
theorem gx_iinc {q i : Nat} {L' : List (Option Value)} {j : Int} {x : Int32} (c : Int32) (C : hC Γ l k own nm cc nL ret rm A) (d : decode cc pc = .ok (.iinc i j, 3)) (hc : Int32.ofInt j = c) (hl : L[i]? = some (some (.int x))) (hp : hPrev L i = true) (hL : L.set i (some (.int (x + c))) = L') (hq : pc + 3 = q) (kk : hG Γ k A Q M n z q L' st) : hG Γ k A Q M n z pc L st := by
  subst hq; subst hL; subst hc
  intro H locs ls h1 h2 h3 h4
  obtain ⟨kx, hkx⟩ := List.getElem?_of_mem (hLv_mem hl)
  exact lv_iinc C.ex C.cd d h4.has hkx rfl ((List.getElem?_eq_some_iff.mp hl).1) rfl (fun ls' hl' => kk H locs ls' h1 h2 h3 (hLoc.store hp hl'))
theorem g_istore0 {q : Nat} {y : Option Value} {Lr : List (Option Value)} {x : Int32} (C : hC Γ l k own nm cc nL ret rm A) (d : decode cc pc = .ok (.istore_n 0, 1)) (hq : pc + 1 = q) (kk : hG Γ k A Q M n z q (some (.int x) :: Lr) st) : hG Γ k A Q M n z pc (y :: Lr) (.int x :: st) :=
  gx_istore_n (i := 0) C d rfl (by simp) rfl rfl hq kk
theorem g_lstore0 {q : Nat} {y y2 : Option Value} {Lr : List (Option Value)} {x : Int64} (C : hC Γ l k own nm cc nL ret rm A) (d : decode cc pc = .ok (.lstore_n 0, 1)) (hq : pc + 1 = q) (kk : hG Γ k A Q M n z q (some (.long x) :: none :: Lr) st) : hG Γ k A Q M n z pc (y :: y2 :: Lr) (.long x :: st) :=
  gx_lstore_n (i := 0) C d rfl (by simp) rfl rfl hq kk
theorem g_dstore0 {q : Nat} {y y2 : Option Value} {Lr : List (Option Value)} {x : UInt64} (C : hC Γ l k own nm cc nL ret rm A) (d : decode cc pc = .ok (.dstore_n 0, 1)) (hq : pc + 1 = q) (kk : hG Γ k A Q M n z q (some (.double x) :: none :: Lr) st) : hG Γ k A Q M n z pc (y :: y2 :: Lr) (.double x :: st) :=
  gx_dstore_n (i := 0) C d rfl (by simp) rfl rfl hq kk
theorem g_astore0 {q : Nat} {y : Option Value} {Lr : List (Option Value)} {v : Value} (C : hC Γ l k own nm cc nL ret rm A) (d : decode cc pc = .ok (.astore_n 0, 1)) (hv : hRef v) (hq : pc + 1 = q) (kk : hG Γ k A Q M n z q (some v :: Lr) st) : hG Γ k A Q M n z pc (y :: Lr) (v :: st) :=
  gx_astore_n (i := 0) C d rfl hv (by simp) rfl rfl hq kk
theorem g_iinc0 {q : Nat} {Lr : List (Option Value)} {j : Int} {x : Int32} (c : Int32) (C : hC Γ l k own nm cc nL ret rm A) (d : decode cc pc = .ok (.iinc 0 j, 3)) (hc : Int32.ofInt j = c) (hq : pc + 3 = q) (kk : hG Γ k A Q M n z q (some (.int (x + c)) :: Lr) st) : hG Γ k A Q M n z pc (some (.int x) :: Lr) st :=
  gx_iinc c C d hc rfl rfl rfl hq kk
theorem g_istore1 {q : Nat} {o0 : Option Value} {y : Option Value} {Lr : List (Option Value)} {x : Int32} (C : hC Γ l k own nm cc nL ret rm A) (d : decode cc pc = .ok (.istore_n 1, 1)) (hp : hNw o0 = true) (hq : pc + 1 = q) (kk : hG Γ k A Q M n z q (o0 :: some (.int x) :: Lr) st) : hG Γ k A Q M n z pc (o0 :: y :: Lr) (.int x :: st) :=
  gx_istore_n (i := 1) C d rfl (by simp) hp rfl hq kk
theorem g_lstore1 {q : Nat} {o0 : Option Value} {y y2 : Option Value} {Lr : List (Option Value)} {x : Int64} (C : hC Γ l k own nm cc nL ret rm A) (d : decode cc pc = .ok (.lstore_n 1, 1)) (hp : hNw o0 = true) (hq : pc + 1 = q) (kk : hG Γ k A Q M n z q (o0 :: some (.long x) :: none :: Lr) st) : hG Γ k A Q M n z pc (o0 :: y :: y2 :: Lr) (.long x :: st) :=
  gx_lstore_n (i := 1) C d rfl (by simp) hp rfl hq kk
theorem g_dstore1 {q : Nat} {o0 : Option Value} {y y2 : Option Value} {Lr : List (Option Value)} {x : UInt64} (C : hC Γ l k own nm cc nL ret rm A) (d : decode cc pc = .ok (.dstore_n 1, 1)) (hp : hNw o0 = true) (hq : pc + 1 = q) (kk : hG Γ k A Q M n z q (o0 :: some (.double x) :: none :: Lr) st) : hG Γ k A Q M n z pc (o0 :: y :: y2 :: Lr) (.double x :: st) :=
  gx_dstore_n (i := 1) C d rfl (by simp) hp rfl hq kk
theorem g_astore1 {q : Nat} {o0 : Option Value} {y : Option Value} {Lr : List (Option Value)} {v : Value} (C : hC Γ l k own nm cc nL ret rm A) (d : decode cc pc = .ok (.astore_n 1, 1)) (hv : hRef v) (hp : hNw o0 = true) (hq : pc + 1 = q) (kk : hG Γ k A Q M n z q (o0 :: some v :: Lr) st) : hG Γ k A Q M n z pc (o0 :: y :: Lr) (v :: st) :=
  gx_astore_n (i := 1) C d rfl hv (by simp) hp rfl hq kk
theorem g_iinc1 {q : Nat} {o0 : Option Value} {Lr : List (Option Value)} {j : Int} {x : Int32} (c : Int32) (C : hC Γ l k own nm cc nL ret rm A) (d : decode cc pc = .ok (.iinc 1 j, 3)) (hc : Int32.ofInt j = c) (hp : hNw o0 = true) (hq : pc + 3 = q) (kk : hG Γ k A Q M n z q (o0 :: some (.int (x + c)) :: Lr) st) : hG Γ k A Q M n z pc (o0 :: some (.int x) :: Lr) st :=
  gx_iinc c C d hc rfl hp rfl hq kk
theorem g_istore2 {q : Nat} {o0 o1 : Option Value} {y : Option Value} {Lr : List (Option Value)} {x : Int32} (C : hC Γ l k own nm cc nL ret rm A) (d : decode cc pc = .ok (.istore_n 2, 1)) (hp : hNw o1 = true) (hq : pc + 1 = q) (kk : hG Γ k A Q M n z q (o0 :: o1 :: some (.int x) :: Lr) st) : hG Γ k A Q M n z pc (o0 :: o1 :: y :: Lr) (.int x :: st) :=
  gx_istore_n (i := 2) C d rfl (by simp) hp rfl hq kk
theorem g_lstore2 {q : Nat} {o0 o1 : Option Value} {y y2 : Option Value} {Lr : List (Option Value)} {x : Int64} (C : hC Γ l k own nm cc nL ret rm A) (d : decode cc pc = .ok (.lstore_n 2, 1)) (hp : hNw o1 = true) (hq : pc + 1 = q) (kk : hG Γ k A Q M n z q (o0 :: o1 :: some (.long x) :: none :: Lr) st) : hG Γ k A Q M n z pc (o0 :: o1 :: y :: y2 :: Lr) (.long x :: st) :=
  gx_lstore_n (i := 2) C d rfl (by simp) hp rfl hq kk
theorem g_dstore2 {q : Nat} {o0 o1 : Option Value} {y y2 : Option Value} {Lr : List (Option Value)} {x : UInt64} (C : hC Γ l k own nm cc nL ret rm A) (d : decode cc pc = .ok (.dstore_n 2, 1)) (hp : hNw o1 = true) (hq : pc + 1 = q) (kk : hG Γ k A Q M n z q (o0 :: o1 :: some (.double x) :: none :: Lr) st) : hG Γ k A Q M n z pc (o0 :: o1 :: y :: y2 :: Lr) (.double x :: st) :=
  gx_dstore_n (i := 2) C d rfl (by simp) hp rfl hq kk
theorem g_astore2 {q : Nat} {o0 o1 : Option Value} {y : Option Value} {Lr : List (Option Value)} {v : Value} (C : hC Γ l k own nm cc nL ret rm A) (d : decode cc pc = .ok (.astore_n 2, 1)) (hv : hRef v) (hp : hNw o1 = true) (hq : pc + 1 = q) (kk : hG Γ k A Q M n z q (o0 :: o1 :: some v :: Lr) st) : hG Γ k A Q M n z pc (o0 :: o1 :: y :: Lr) (v :: st) :=
  gx_astore_n (i := 2) C d rfl hv (by simp) hp rfl hq kk
theorem g_iinc2 {q : Nat} {o0 o1 : Option Value} {Lr : List (Option Value)} {j : Int} {x : Int32} (c : Int32) (C : hC Γ l k own nm cc nL ret rm A) (d : decode cc pc = .ok (.iinc 2 j, 3)) (hc : Int32.ofInt j = c) (hp : hNw o1 = true) (hq : pc + 3 = q) (kk : hG Γ k A Q M n z q (o0 :: o1 :: some (.int (x + c)) :: Lr) st) : hG Γ k A Q M n z pc (o0 :: o1 :: some (.int x) :: Lr) st :=
  gx_iinc c C d hc rfl hp rfl hq kk
theorem g_istore3 {q : Nat} {o0 o1 o2 : Option Value} {y : Option Value} {Lr : List (Option Value)} {x : Int32} (C : hC Γ l k own nm cc nL ret rm A) (d : decode cc pc = .ok (.istore_n 3, 1)) (hp : hNw o2 = true) (hq : pc + 1 = q) (kk : hG Γ k A Q M n z q (o0 :: o1 :: o2 :: some (.int x) :: Lr) st) : hG Γ k A Q M n z pc (o0 :: o1 :: o2 :: y :: Lr) (.int x :: st) :=
  gx_istore_n (i := 3) C d rfl (by simp) hp rfl hq kk
theorem g_lstore3 {q : Nat} {o0 o1 o2 : Option Value} {y y2 : Option Value} {Lr : List (Option Value)} {x : Int64} (C : hC Γ l k own nm cc nL ret rm A) (d : decode cc pc = .ok (.lstore_n 3, 1)) (hp : hNw o2 = true) (hq : pc + 1 = q) (kk : hG Γ k A Q M n z q (o0 :: o1 :: o2 :: some (.long x) :: none :: Lr) st) : hG Γ k A Q M n z pc (o0 :: o1 :: o2 :: y :: y2 :: Lr) (.long x :: st) :=
  gx_lstore_n (i := 3) C d rfl (by simp) hp rfl hq kk
theorem g_dstore3 {q : Nat} {o0 o1 o2 : Option Value} {y y2 : Option Value} {Lr : List (Option Value)} {x : UInt64} (C : hC Γ l k own nm cc nL ret rm A) (d : decode cc pc = .ok (.dstore_n 3, 1)) (hp : hNw o2 = true) (hq : pc + 1 = q) (kk : hG Γ k A Q M n z q (o0 :: o1 :: o2 :: some (.double x) :: none :: Lr) st) : hG Γ k A Q M n z pc (o0 :: o1 :: o2 :: y :: y2 :: Lr) (.double x :: st) :=
  gx_dstore_n (i := 3) C d rfl (by simp) hp rfl hq kk
theorem g_astore3 {q : Nat} {o0 o1 o2 : Option Value} {y : Option Value} {Lr : List (Option Value)} {v : Value} (C : hC Γ l k own nm cc nL ret rm A) (d : decode cc pc = .ok (.astore_n 3, 1)) (hv : hRef v) (hp : hNw o2 = true) (hq : pc + 1 = q) (kk : hG Γ k A Q M n z q (o0 :: o1 :: o2 :: some v :: Lr) st) : hG Γ k A Q M n z pc (o0 :: o1 :: o2 :: y :: Lr) (v :: st) :=
  gx_astore_n (i := 3) C d rfl hv (by simp) hp rfl hq kk
theorem g_iinc3 {q : Nat} {o0 o1 o2 : Option Value} {Lr : List (Option Value)} {j : Int} {x : Int32} (c : Int32) (C : hC Γ l k own nm cc nL ret rm A) (d : decode cc pc = .ok (.iinc 3 j, 3)) (hc : Int32.ofInt j = c) (hp : hNw o2 = true) (hq : pc + 3 = q) (kk : hG Γ k A Q M n z q (o0 :: o1 :: o2 :: some (.int (x + c)) :: Lr) st) : hG Γ k A Q M n z pc (o0 :: o1 :: o2 :: some (.int x) :: Lr) st :=
  gx_iinc c C d hc rfl hp rfl hq kk
theorem g_istore4 {q : Nat} {o0 o1 o2 o3 : Option Value} {y : Option Value} {Lr : List (Option Value)} {x : Int32} (C : hC Γ l k own nm cc nL ret rm A) (d : decode cc pc = .ok (.istore 4, 2)) (hp : hNw o3 = true) (hq : pc + 2 = q) (kk : hG Γ k A Q M n z q (o0 :: o1 :: o2 :: o3 :: some (.int x) :: Lr) st) : hG Γ k A Q M n z pc (o0 :: o1 :: o2 :: o3 :: y :: Lr) (.int x :: st) :=
  gx_istore (i := 4) C d (by simp) hp rfl hq kk
theorem g_lstore4 {q : Nat} {o0 o1 o2 o3 : Option Value} {y y2 : Option Value} {Lr : List (Option Value)} {x : Int64} (C : hC Γ l k own nm cc nL ret rm A) (d : decode cc pc = .ok (.lstore 4, 2)) (hp : hNw o3 = true) (hq : pc + 2 = q) (kk : hG Γ k A Q M n z q (o0 :: o1 :: o2 :: o3 :: some (.long x) :: none :: Lr) st) : hG Γ k A Q M n z pc (o0 :: o1 :: o2 :: o3 :: y :: y2 :: Lr) (.long x :: st) :=
  gx_lstore (i := 4) C d (by simp) hp rfl hq kk
theorem g_dstore4 {q : Nat} {o0 o1 o2 o3 : Option Value} {y y2 : Option Value} {Lr : List (Option Value)} {x : UInt64} (C : hC Γ l k own nm cc nL ret rm A) (d : decode cc pc = .ok (.dstore 4, 2)) (hp : hNw o3 = true) (hq : pc + 2 = q) (kk : hG Γ k A Q M n z q (o0 :: o1 :: o2 :: o3 :: some (.double x) :: none :: Lr) st) : hG Γ k A Q M n z pc (o0 :: o1 :: o2 :: o3 :: y :: y2 :: Lr) (.double x :: st) :=
  gx_dstore (i := 4) C d (by simp) hp rfl hq kk
theorem g_astore4 {q : Nat} {o0 o1 o2 o3 : Option Value} {y : Option Value} {Lr : List (Option Value)} {v : Value} (C : hC Γ l k own nm cc nL ret rm A) (d : decode cc pc = .ok (.astore 4, 2)) (hv : hRef v) (hp : hNw o3 = true) (hq : pc + 2 = q) (kk : hG Γ k A Q M n z q (o0 :: o1 :: o2 :: o3 :: some v :: Lr) st) : hG Γ k A Q M n z pc (o0 :: o1 :: o2 :: o3 :: y :: Lr) (v :: st) :=
  gx_astore (i := 4) C d hv (by simp) hp rfl hq kk
theorem g_iinc4 {q : Nat} {o0 o1 o2 o3 : Option Value} {Lr : List (Option Value)} {j : Int} {x : Int32} (c : Int32) (C : hC Γ l k own nm cc nL ret rm A) (d : decode cc pc = .ok (.iinc 4 j, 3)) (hc : Int32.ofInt j = c) (hp : hNw o3 = true) (hq : pc + 3 = q) (kk : hG Γ k A Q M n z q (o0 :: o1 :: o2 :: o3 :: some (.int (x + c)) :: Lr) st) : hG Γ k A Q M n z pc (o0 :: o1 :: o2 :: o3 :: some (.int x) :: Lr) st :=
  gx_iinc c C d hc rfl hp rfl hq kk
theorem g_istore5 {q : Nat} {o0 o1 o2 o3 o4 : Option Value} {y : Option Value} {Lr : List (Option Value)} {x : Int32} (C : hC Γ l k own nm cc nL ret rm A) (d : decode cc pc = .ok (.istore 5, 2)) (hp : hNw o4 = true) (hq : pc + 2 = q) (kk : hG Γ k A Q M n z q (o0 :: o1 :: o2 :: o3 :: o4 :: some (.int x) :: Lr) st) : hG Γ k A Q M n z pc (o0 :: o1 :: o2 :: o3 :: o4 :: y :: Lr) (.int x :: st) :=
  gx_istore (i := 5) C d (by simp) hp rfl hq kk
theorem g_lstore5 {q : Nat} {o0 o1 o2 o3 o4 : Option Value} {y y2 : Option Value} {Lr : List (Option Value)} {x : Int64} (C : hC Γ l k own nm cc nL ret rm A) (d : decode cc pc = .ok (.lstore 5, 2)) (hp : hNw o4 = true) (hq : pc + 2 = q) (kk : hG Γ k A Q M n z q (o0 :: o1 :: o2 :: o3 :: o4 :: some (.long x) :: none :: Lr) st) : hG Γ k A Q M n z pc (o0 :: o1 :: o2 :: o3 :: o4 :: y :: y2 :: Lr) (.long x :: st) :=
  gx_lstore (i := 5) C d (by simp) hp rfl hq kk
theorem g_dstore5 {q : Nat} {o0 o1 o2 o3 o4 : Option Value} {y y2 : Option Value} {Lr : List (Option Value)} {x : UInt64} (C : hC Γ l k own nm cc nL ret rm A) (d : decode cc pc = .ok (.dstore 5, 2)) (hp : hNw o4 = true) (hq : pc + 2 = q) (kk : hG Γ k A Q M n z q (o0 :: o1 :: o2 :: o3 :: o4 :: some (.double x) :: none :: Lr) st) : hG Γ k A Q M n z pc (o0 :: o1 :: o2 :: o3 :: o4 :: y :: y2 :: Lr) (.double x :: st) :=
  gx_dstore (i := 5) C d (by simp) hp rfl hq kk
theorem g_astore5 {q : Nat} {o0 o1 o2 o3 o4 : Option Value} {y : Option Value} {Lr : List (Option Value)} {v : Value} (C : hC Γ l k own nm cc nL ret rm A) (d : decode cc pc = .ok (.astore 5, 2)) (hv : hRef v) (hp : hNw o4 = true) (hq : pc + 2 = q) (kk : hG Γ k A Q M n z q (o0 :: o1 :: o2 :: o3 :: o4 :: some v :: Lr) st) : hG Γ k A Q M n z pc (o0 :: o1 :: o2 :: o3 :: o4 :: y :: Lr) (v :: st) :=
  gx_astore (i := 5) C d hv (by simp) hp rfl hq kk
theorem g_iinc5 {q : Nat} {o0 o1 o2 o3 o4 : Option Value} {Lr : List (Option Value)} {j : Int} {x : Int32} (c : Int32) (C : hC Γ l k own nm cc nL ret rm A) (d : decode cc pc = .ok (.iinc 5 j, 3)) (hc : Int32.ofInt j = c) (hp : hNw o4 = true) (hq : pc + 3 = q) (kk : hG Γ k A Q M n z q (o0 :: o1 :: o2 :: o3 :: o4 :: some (.int (x + c)) :: Lr) st) : hG Γ k A Q M n z pc (o0 :: o1 :: o2 :: o3 :: o4 :: some (.int x) :: Lr) st :=
  gx_iinc c C d hc rfl hp rfl hq kk
theorem g_istore6 {q : Nat} {o0 o1 o2 o3 o4 o5 : Option Value} {y : Option Value} {Lr : List (Option Value)} {x : Int32} (C : hC Γ l k own nm cc nL ret rm A) (d : decode cc pc = .ok (.istore 6, 2)) (hp : hNw o5 = true) (hq : pc + 2 = q) (kk : hG Γ k A Q M n z q (o0 :: o1 :: o2 :: o3 :: o4 :: o5 :: some (.int x) :: Lr) st) : hG Γ k A Q M n z pc (o0 :: o1 :: o2 :: o3 :: o4 :: o5 :: y :: Lr) (.int x :: st) :=
  gx_istore (i := 6) C d (by simp) hp rfl hq kk
theorem g_lstore6 {q : Nat} {o0 o1 o2 o3 o4 o5 : Option Value} {y y2 : Option Value} {Lr : List (Option Value)} {x : Int64} (C : hC Γ l k own nm cc nL ret rm A) (d : decode cc pc = .ok (.lstore 6, 2)) (hp : hNw o5 = true) (hq : pc + 2 = q) (kk : hG Γ k A Q M n z q (o0 :: o1 :: o2 :: o3 :: o4 :: o5 :: some (.long x) :: none :: Lr) st) : hG Γ k A Q M n z pc (o0 :: o1 :: o2 :: o3 :: o4 :: o5 :: y :: y2 :: Lr) (.long x :: st) :=
  gx_lstore (i := 6) C d (by simp) hp rfl hq kk
theorem g_dstore6 {q : Nat} {o0 o1 o2 o3 o4 o5 : Option Value} {y y2 : Option Value} {Lr : List (Option Value)} {x : UInt64} (C : hC Γ l k own nm cc nL ret rm A) (d : decode cc pc = .ok (.dstore 6, 2)) (hp : hNw o5 = true) (hq : pc + 2 = q) (kk : hG Γ k A Q M n z q (o0 :: o1 :: o2 :: o3 :: o4 :: o5 :: some (.double x) :: none :: Lr) st) : hG Γ k A Q M n z pc (o0 :: o1 :: o2 :: o3 :: o4 :: o5 :: y :: y2 :: Lr) (.double x :: st) :=
  gx_dstore (i := 6) C d (by simp) hp rfl hq kk
theorem g_astore6 {q : Nat} {o0 o1 o2 o3 o4 o5 : Option Value} {y : Option Value} {Lr : List (Option Value)} {v : Value} (C : hC Γ l k own nm cc nL ret rm A) (d : decode cc pc = .ok (.astore 6, 2)) (hv : hRef v) (hp : hNw o5 = true) (hq : pc + 2 = q) (kk : hG Γ k A Q M n z q (o0 :: o1 :: o2 :: o3 :: o4 :: o5 :: some v :: Lr) st) : hG Γ k A Q M n z pc (o0 :: o1 :: o2 :: o3 :: o4 :: o5 :: y :: Lr) (v :: st) :=
  gx_astore (i := 6) C d hv (by simp) hp rfl hq kk
theorem g_iinc6 {q : Nat} {o0 o1 o2 o3 o4 o5 : Option Value} {Lr : List (Option Value)} {j : Int} {x : Int32} (c : Int32) (C : hC Γ l k own nm cc nL ret rm A) (d : decode cc pc = .ok (.iinc 6 j, 3)) (hc : Int32.ofInt j = c) (hp : hNw o5 = true) (hq : pc + 3 = q) (kk : hG Γ k A Q M n z q (o0 :: o1 :: o2 :: o3 :: o4 :: o5 :: some (.int (x + c)) :: Lr) st) : hG Γ k A Q M n z pc (o0 :: o1 :: o2 :: o3 :: o4 :: o5 :: some (.int x) :: Lr) st :=
  gx_iinc c C d hc rfl hp rfl hq kk
theorem g_istore7 {q : Nat} {o0 o1 o2 o3 o4 o5 o6 : Option Value} {y : Option Value} {Lr : List (Option Value)} {x : Int32} (C : hC Γ l k own nm cc nL ret rm A) (d : decode cc pc = .ok (.istore 7, 2)) (hp : hNw o6 = true) (hq : pc + 2 = q) (kk : hG Γ k A Q M n z q (o0 :: o1 :: o2 :: o3 :: o4 :: o5 :: o6 :: some (.int x) :: Lr) st) : hG Γ k A Q M n z pc (o0 :: o1 :: o2 :: o3 :: o4 :: o5 :: o6 :: y :: Lr) (.int x :: st) :=
  gx_istore (i := 7) C d (by simp) hp rfl hq kk
theorem g_lstore7 {q : Nat} {o0 o1 o2 o3 o4 o5 o6 : Option Value} {y y2 : Option Value} {Lr : List (Option Value)} {x : Int64} (C : hC Γ l k own nm cc nL ret rm A) (d : decode cc pc = .ok (.lstore 7, 2)) (hp : hNw o6 = true) (hq : pc + 2 = q) (kk : hG Γ k A Q M n z q (o0 :: o1 :: o2 :: o3 :: o4 :: o5 :: o6 :: some (.long x) :: none :: Lr) st) : hG Γ k A Q M n z pc (o0 :: o1 :: o2 :: o3 :: o4 :: o5 :: o6 :: y :: y2 :: Lr) (.long x :: st) :=
  gx_lstore (i := 7) C d (by simp) hp rfl hq kk
theorem g_dstore7 {q : Nat} {o0 o1 o2 o3 o4 o5 o6 : Option Value} {y y2 : Option Value} {Lr : List (Option Value)} {x : UInt64} (C : hC Γ l k own nm cc nL ret rm A) (d : decode cc pc = .ok (.dstore 7, 2)) (hp : hNw o6 = true) (hq : pc + 2 = q) (kk : hG Γ k A Q M n z q (o0 :: o1 :: o2 :: o3 :: o4 :: o5 :: o6 :: some (.double x) :: none :: Lr) st) : hG Γ k A Q M n z pc (o0 :: o1 :: o2 :: o3 :: o4 :: o5 :: o6 :: y :: y2 :: Lr) (.double x :: st) :=
  gx_dstore (i := 7) C d (by simp) hp rfl hq kk
theorem g_astore7 {q : Nat} {o0 o1 o2 o3 o4 o5 o6 : Option Value} {y : Option Value} {Lr : List (Option Value)} {v : Value} (C : hC Γ l k own nm cc nL ret rm A) (d : decode cc pc = .ok (.astore 7, 2)) (hv : hRef v) (hp : hNw o6 = true) (hq : pc + 2 = q) (kk : hG Γ k A Q M n z q (o0 :: o1 :: o2 :: o3 :: o4 :: o5 :: o6 :: some v :: Lr) st) : hG Γ k A Q M n z pc (o0 :: o1 :: o2 :: o3 :: o4 :: o5 :: o6 :: y :: Lr) (v :: st) :=
  gx_astore (i := 7) C d hv (by simp) hp rfl hq kk
theorem g_iinc7 {q : Nat} {o0 o1 o2 o3 o4 o5 o6 : Option Value} {Lr : List (Option Value)} {j : Int} {x : Int32} (c : Int32) (C : hC Γ l k own nm cc nL ret rm A) (d : decode cc pc = .ok (.iinc 7 j, 3)) (hc : Int32.ofInt j = c) (hp : hNw o6 = true) (hq : pc + 3 = q) (kk : hG Γ k A Q M n z q (o0 :: o1 :: o2 :: o3 :: o4 :: o5 :: o6 :: some (.int (x + c)) :: Lr) st) : hG Γ k A Q M n z pc (o0 :: o1 :: o2 :: o3 :: o4 :: o5 :: o6 :: some (.int x) :: Lr) st :=
  gx_iinc c C d hc rfl hp rfl hq kk
theorem g_istore8 {q : Nat} {o0 o1 o2 o3 o4 o5 o6 o7 : Option Value} {y : Option Value} {Lr : List (Option Value)} {x : Int32} (C : hC Γ l k own nm cc nL ret rm A) (d : decode cc pc = .ok (.istore 8, 2)) (hp : hNw o7 = true) (hq : pc + 2 = q) (kk : hG Γ k A Q M n z q (o0 :: o1 :: o2 :: o3 :: o4 :: o5 :: o6 :: o7 :: some (.int x) :: Lr) st) : hG Γ k A Q M n z pc (o0 :: o1 :: o2 :: o3 :: o4 :: o5 :: o6 :: o7 :: y :: Lr) (.int x :: st) :=
  gx_istore (i := 8) C d (by simp) hp rfl hq kk
theorem g_lstore8 {q : Nat} {o0 o1 o2 o3 o4 o5 o6 o7 : Option Value} {y y2 : Option Value} {Lr : List (Option Value)} {x : Int64} (C : hC Γ l k own nm cc nL ret rm A) (d : decode cc pc = .ok (.lstore 8, 2)) (hp : hNw o7 = true) (hq : pc + 2 = q) (kk : hG Γ k A Q M n z q (o0 :: o1 :: o2 :: o3 :: o4 :: o5 :: o6 :: o7 :: some (.long x) :: none :: Lr) st) : hG Γ k A Q M n z pc (o0 :: o1 :: o2 :: o3 :: o4 :: o5 :: o6 :: o7 :: y :: y2 :: Lr) (.long x :: st) :=
  gx_lstore (i := 8) C d (by simp) hp rfl hq kk
theorem g_dstore8 {q : Nat} {o0 o1 o2 o3 o4 o5 o6 o7 : Option Value} {y y2 : Option Value} {Lr : List (Option Value)} {x : UInt64} (C : hC Γ l k own nm cc nL ret rm A) (d : decode cc pc = .ok (.dstore 8, 2)) (hp : hNw o7 = true) (hq : pc + 2 = q) (kk : hG Γ k A Q M n z q (o0 :: o1 :: o2 :: o3 :: o4 :: o5 :: o6 :: o7 :: some (.double x) :: none :: Lr) st) : hG Γ k A Q M n z pc (o0 :: o1 :: o2 :: o3 :: o4 :: o5 :: o6 :: o7 :: y :: y2 :: Lr) (.double x :: st) :=
  gx_dstore (i := 8) C d (by simp) hp rfl hq kk
theorem g_astore8 {q : Nat} {o0 o1 o2 o3 o4 o5 o6 o7 : Option Value} {y : Option Value} {Lr : List (Option Value)} {v : Value} (C : hC Γ l k own nm cc nL ret rm A) (d : decode cc pc = .ok (.astore 8, 2)) (hv : hRef v) (hp : hNw o7 = true) (hq : pc + 2 = q) (kk : hG Γ k A Q M n z q (o0 :: o1 :: o2 :: o3 :: o4 :: o5 :: o6 :: o7 :: some v :: Lr) st) : hG Γ k A Q M n z pc (o0 :: o1 :: o2 :: o3 :: o4 :: o5 :: o6 :: o7 :: y :: Lr) (v :: st) :=
  gx_astore (i := 8) C d hv (by simp) hp rfl hq kk
theorem g_iinc8 {q : Nat} {o0 o1 o2 o3 o4 o5 o6 o7 : Option Value} {Lr : List (Option Value)} {j : Int} {x : Int32} (c : Int32) (C : hC Γ l k own nm cc nL ret rm A) (d : decode cc pc = .ok (.iinc 8 j, 3)) (hc : Int32.ofInt j = c) (hp : hNw o7 = true) (hq : pc + 3 = q) (kk : hG Γ k A Q M n z q (o0 :: o1 :: o2 :: o3 :: o4 :: o5 :: o6 :: o7 :: some (.int (x + c)) :: Lr) st) : hG Γ k A Q M n z pc (o0 :: o1 :: o2 :: o3 :: o4 :: o5 :: o6 :: o7 :: some (.int x) :: Lr) st :=
  gx_iinc c C d hc rfl hp rfl hq kk
theorem g_istore9 {q : Nat} {o0 o1 o2 o3 o4 o5 o6 o7 o8 : Option Value} {y : Option Value} {Lr : List (Option Value)} {x : Int32} (C : hC Γ l k own nm cc nL ret rm A) (d : decode cc pc = .ok (.istore 9, 2)) (hp : hNw o8 = true) (hq : pc + 2 = q) (kk : hG Γ k A Q M n z q (o0 :: o1 :: o2 :: o3 :: o4 :: o5 :: o6 :: o7 :: o8 :: some (.int x) :: Lr) st) : hG Γ k A Q M n z pc (o0 :: o1 :: o2 :: o3 :: o4 :: o5 :: o6 :: o7 :: o8 :: y :: Lr) (.int x :: st) :=
  gx_istore (i := 9) C d (by simp) hp rfl hq kk
theorem g_lstore9 {q : Nat} {o0 o1 o2 o3 o4 o5 o6 o7 o8 : Option Value} {y y2 : Option Value} {Lr : List (Option Value)} {x : Int64} (C : hC Γ l k own nm cc nL ret rm A) (d : decode cc pc = .ok (.lstore 9, 2)) (hp : hNw o8 = true) (hq : pc + 2 = q) (kk : hG Γ k A Q M n z q (o0 :: o1 :: o2 :: o3 :: o4 :: o5 :: o6 :: o7 :: o8 :: some (.long x) :: none :: Lr) st) : hG Γ k A Q M n z pc (o0 :: o1 :: o2 :: o3 :: o4 :: o5 :: o6 :: o7 :: o8 :: y :: y2 :: Lr) (.long x :: st) :=
  gx_lstore (i := 9) C d (by simp) hp rfl hq kk
theorem g_dstore9 {q : Nat} {o0 o1 o2 o3 o4 o5 o6 o7 o8 : Option Value} {y y2 : Option Value} {Lr : List (Option Value)} {x : UInt64} (C : hC Γ l k own nm cc nL ret rm A) (d : decode cc pc = .ok (.dstore 9, 2)) (hp : hNw o8 = true) (hq : pc + 2 = q) (kk : hG Γ k A Q M n z q (o0 :: o1 :: o2 :: o3 :: o4 :: o5 :: o6 :: o7 :: o8 :: some (.double x) :: none :: Lr) st) : hG Γ k A Q M n z pc (o0 :: o1 :: o2 :: o3 :: o4 :: o5 :: o6 :: o7 :: o8 :: y :: y2 :: Lr) (.double x :: st) :=
  gx_dstore (i := 9) C d (by simp) hp rfl hq kk
theorem g_astore9 {q : Nat} {o0 o1 o2 o3 o4 o5 o6 o7 o8 : Option Value} {y : Option Value} {Lr : List (Option Value)} {v : Value} (C : hC Γ l k own nm cc nL ret rm A) (d : decode cc pc = .ok (.astore 9, 2)) (hv : hRef v) (hp : hNw o8 = true) (hq : pc + 2 = q) (kk : hG Γ k A Q M n z q (o0 :: o1 :: o2 :: o3 :: o4 :: o5 :: o6 :: o7 :: o8 :: some v :: Lr) st) : hG Γ k A Q M n z pc (o0 :: o1 :: o2 :: o3 :: o4 :: o5 :: o6 :: o7 :: o8 :: y :: Lr) (v :: st) :=
  gx_astore (i := 9) C d hv (by simp) hp rfl hq kk
theorem g_iinc9 {q : Nat} {o0 o1 o2 o3 o4 o5 o6 o7 o8 : Option Value} {Lr : List (Option Value)} {j : Int} {x : Int32} (c : Int32) (C : hC Γ l k own nm cc nL ret rm A) (d : decode cc pc = .ok (.iinc 9 j, 3)) (hc : Int32.ofInt j = c) (hp : hNw o8 = true) (hq : pc + 3 = q) (kk : hG Γ k A Q M n z q (o0 :: o1 :: o2 :: o3 :: o4 :: o5 :: o6 :: o7 :: o8 :: some (.int (x + c)) :: Lr) st) : hG Γ k A Q M n z pc (o0 :: o1 :: o2 :: o3 :: o4 :: o5 :: o6 :: o7 :: o8 :: some (.int x) :: Lr) st :=
  gx_iinc c C d hc rfl hp rfl hq kk
theorem g_istore10 {q : Nat} {o0 o1 o2 o3 o4 o5 o6 o7 o8 o9 : Option Value} {y : Option Value} {Lr : List (Option Value)} {x : Int32} (C : hC Γ l k own nm cc nL ret rm A) (d : decode cc pc = .ok (.istore 10, 2)) (hp : hNw o9 = true) (hq : pc + 2 = q) (kk : hG Γ k A Q M n z q (o0 :: o1 :: o2 :: o3 :: o4 :: o5 :: o6 :: o7 :: o8 :: o9 :: some (.int x) :: Lr) st) : hG Γ k A Q M n z pc (o0 :: o1 :: o2 :: o3 :: o4 :: o5 :: o6 :: o7 :: o8 :: o9 :: y :: Lr) (.int x :: st) :=
  gx_istore (i := 10) C d (by simp) hp rfl hq kk
theorem g_lstore10 {q : Nat} {o0 o1 o2 o3 o4 o5 o6 o7 o8 o9 : Option Value} {y y2 : Option Value} {Lr : List (Option Value)} {x : Int64} (C : hC Γ l k own nm cc nL ret rm A) (d : decode cc pc = .ok (.lstore 10, 2)) (hp : hNw o9 = true) (hq : pc + 2 = q) (kk : hG Γ k A Q M n z q (o0 :: o1 :: o2 :: o3 :: o4 :: o5 :: o6 :: o7 :: o8 :: o9 :: some (.long x) :: none :: Lr) st) : hG Γ k A Q M n z pc (o0 :: o1 :: o2 :: o3 :: o4 :: o5 :: o6 :: o7 :: o8 :: o9 :: y :: y2 :: Lr) (.long x :: st) :=
  gx_lstore (i := 10) C d (by simp) hp rfl hq kk
theorem g_dstore10 {q : Nat} {o0 o1 o2 o3 o4 o5 o6 o7 o8 o9 : Option Value} {y y2 : Option Value} {Lr : List (Option Value)} {x : UInt64} (C : hC Γ l k own nm cc nL ret rm A) (d : decode cc pc = .ok (.dstore 10, 2)) (hp : hNw o9 = true) (hq : pc + 2 = q) (kk : hG Γ k A Q M n z q (o0 :: o1 :: o2 :: o3 :: o4 :: o5 :: o6 :: o7 :: o8 :: o9 :: some (.double x) :: none :: Lr) st) : hG Γ k A Q M n z pc (o0 :: o1 :: o2 :: o3 :: o4 :: o5 :: o6 :: o7 :: o8 :: o9 :: y :: y2 :: Lr) (.double x :: st) :=
  gx_dstore (i := 10) C d (by simp) hp rfl hq kk
theorem g_astore10 {q : Nat} {o0 o1 o2 o3 o4 o5 o6 o7 o8 o9 : Option Value} {y : Option Value} {Lr : List (Option Value)} {v : Value} (C : hC Γ l k own nm cc nL ret rm A) (d : decode cc pc = .ok (.astore 10, 2)) (hv : hRef v) (hp : hNw o9 = true) (hq : pc + 2 = q) (kk : hG Γ k A Q M n z q (o0 :: o1 :: o2 :: o3 :: o4 :: o5 :: o6 :: o7 :: o8 :: o9 :: some v :: Lr) st) : hG Γ k A Q M n z pc (o0 :: o1 :: o2 :: o3 :: o4 :: o5 :: o6 :: o7 :: o8 :: o9 :: y :: Lr) (v :: st) :=
  gx_astore (i := 10) C d hv (by simp) hp rfl hq kk
theorem g_iinc10 {q : Nat} {o0 o1 o2 o3 o4 o5 o6 o7 o8 o9 : Option Value} {Lr : List (Option Value)} {j : Int} {x : Int32} (c : Int32) (C : hC Γ l k own nm cc nL ret rm A) (d : decode cc pc = .ok (.iinc 10 j, 3)) (hc : Int32.ofInt j = c) (hp : hNw o9 = true) (hq : pc + 3 = q) (kk : hG Γ k A Q M n z q (o0 :: o1 :: o2 :: o3 :: o4 :: o5 :: o6 :: o7 :: o8 :: o9 :: some (.int (x + c)) :: Lr) st) : hG Γ k A Q M n z pc (o0 :: o1 :: o2 :: o3 :: o4 :: o5 :: o6 :: o7 :: o8 :: o9 :: some (.int x) :: Lr) st :=
  gx_iinc c C d hc rfl hp rfl hq kk
theorem g_istore11 {q : Nat} {o0 o1 o2 o3 o4 o5 o6 o7 o8 o9 o10 : Option Value} {y : Option Value} {Lr : List (Option Value)} {x : Int32} (C : hC Γ l k own nm cc nL ret rm A) (d : decode cc pc = .ok (.istore 11, 2)) (hp : hNw o10 = true) (hq : pc + 2 = q) (kk : hG Γ k A Q M n z q (o0 :: o1 :: o2 :: o3 :: o4 :: o5 :: o6 :: o7 :: o8 :: o9 :: o10 :: some (.int x) :: Lr) st) : hG Γ k A Q M n z pc (o0 :: o1 :: o2 :: o3 :: o4 :: o5 :: o6 :: o7 :: o8 :: o9 :: o10 :: y :: Lr) (.int x :: st) :=
  gx_istore (i := 11) C d (by simp) hp rfl hq kk
theorem g_lstore11 {q : Nat} {o0 o1 o2 o3 o4 o5 o6 o7 o8 o9 o10 : Option Value} {y y2 : Option Value} {Lr : List (Option Value)} {x : Int64} (C : hC Γ l k own nm cc nL ret rm A) (d : decode cc pc = .ok (.lstore 11, 2)) (hp : hNw o10 = true) (hq : pc + 2 = q) (kk : hG Γ k A Q M n z q (o0 :: o1 :: o2 :: o3 :: o4 :: o5 :: o6 :: o7 :: o8 :: o9 :: o10 :: some (.long x) :: none :: Lr) st) : hG Γ k A Q M n z pc (o0 :: o1 :: o2 :: o3 :: o4 :: o5 :: o6 :: o7 :: o8 :: o9 :: o10 :: y :: y2 :: Lr) (.long x :: st) :=
  gx_lstore (i := 11) C d (by simp) hp rfl hq kk
theorem g_dstore11 {q : Nat} {o0 o1 o2 o3 o4 o5 o6 o7 o8 o9 o10 : Option Value} {y y2 : Option Value} {Lr : List (Option Value)} {x : UInt64} (C : hC Γ l k own nm cc nL ret rm A) (d : decode cc pc = .ok (.dstore 11, 2)) (hp : hNw o10 = true) (hq : pc + 2 = q) (kk : hG Γ k A Q M n z q (o0 :: o1 :: o2 :: o3 :: o4 :: o5 :: o6 :: o7 :: o8 :: o9 :: o10 :: some (.double x) :: none :: Lr) st) : hG Γ k A Q M n z pc (o0 :: o1 :: o2 :: o3 :: o4 :: o5 :: o6 :: o7 :: o8 :: o9 :: o10 :: y :: y2 :: Lr) (.double x :: st) :=
  gx_dstore (i := 11) C d (by simp) hp rfl hq kk
theorem g_astore11 {q : Nat} {o0 o1 o2 o3 o4 o5 o6 o7 o8 o9 o10 : Option Value} {y : Option Value} {Lr : List (Option Value)} {v : Value} (C : hC Γ l k own nm cc nL ret rm A) (d : decode cc pc = .ok (.astore 11, 2)) (hv : hRef v) (hp : hNw o10 = true) (hq : pc + 2 = q) (kk : hG Γ k A Q M n z q (o0 :: o1 :: o2 :: o3 :: o4 :: o5 :: o6 :: o7 :: o8 :: o9 :: o10 :: some v :: Lr) st) : hG Γ k A Q M n z pc (o0 :: o1 :: o2 :: o3 :: o4 :: o5 :: o6 :: o7 :: o8 :: o9 :: o10 :: y :: Lr) (v :: st) :=
  gx_astore (i := 11) C d hv (by simp) hp rfl hq kk
theorem g_iinc11 {q : Nat} {o0 o1 o2 o3 o4 o5 o6 o7 o8 o9 o10 : Option Value} {Lr : List (Option Value)} {j : Int} {x : Int32} (c : Int32) (C : hC Γ l k own nm cc nL ret rm A) (d : decode cc pc = .ok (.iinc 11 j, 3)) (hc : Int32.ofInt j = c) (hp : hNw o10 = true) (hq : pc + 3 = q) (kk : hG Γ k A Q M n z q (o0 :: o1 :: o2 :: o3 :: o4 :: o5 :: o6 :: o7 :: o8 :: o9 :: o10 :: some (.int (x + c)) :: Lr) st) : hG Γ k A Q M n z pc (o0 :: o1 :: o2 :: o3 :: o4 :: o5 :: o6 :: o7 :: o8 :: o9 :: o10 :: some (.int x) :: Lr) st :=
  gx_iinc c C d hc rfl hp rfl hq kk
theorem g_istore12 {q : Nat} {o0 o1 o2 o3 o4 o5 o6 o7 o8 o9 o10 o11 : Option Value} {y : Option Value} {Lr : List (Option Value)} {x : Int32} (C : hC Γ l k own nm cc nL ret rm A) (d : decode cc pc = .ok (.istore 12, 2)) (hp : hNw o11 = true) (hq : pc + 2 = q) (kk : hG Γ k A Q M n z q (o0 :: o1 :: o2 :: o3 :: o4 :: o5 :: o6 :: o7 :: o8 :: o9 :: o10 :: o11 :: some (.int x) :: Lr) st) : hG Γ k A Q M n z pc (o0 :: o1 :: o2 :: o3 :: o4 :: o5 :: o6 :: o7 :: o8 :: o9 :: o10 :: o11 :: y :: Lr) (.int x :: st) :=
  gx_istore (i := 12) C d (by simp) hp rfl hq kk
theorem g_lstore12 {q : Nat} {o0 o1 o2 o3 o4 o5 o6 o7 o8 o9 o10 o11 : Option Value} {y y2 : Option Value} {Lr : List (Option Value)} {x : Int64} (C : hC Γ l k own nm cc nL ret rm A) (d : decode cc pc = .ok (.lstore 12, 2)) (hp : hNw o11 = true) (hq : pc + 2 = q) (kk : hG Γ k A Q M n z q (o0 :: o1 :: o2 :: o3 :: o4 :: o5 :: o6 :: o7 :: o8 :: o9 :: o10 :: o11 :: some (.long x) :: none :: Lr) st) : hG Γ k A Q M n z pc (o0 :: o1 :: o2 :: o3 :: o4 :: o5 :: o6 :: o7 :: o8 :: o9 :: o10 :: o11 :: y :: y2 :: Lr) (.long x :: st) :=
  gx_lstore (i := 12) C d (by simp) hp rfl hq kk
theorem g_dstore12 {q : Nat} {o0 o1 o2 o3 o4 o5 o6 o7 o8 o9 o10 o11 : Option Value} {y y2 : Option Value} {Lr : List (Option Value)} {x : UInt64} (C : hC Γ l k own nm cc nL ret rm A) (d : decode cc pc = .ok (.dstore 12, 2)) (hp : hNw o11 = true) (hq : pc + 2 = q) (kk : hG Γ k A Q M n z q (o0 :: o1 :: o2 :: o3 :: o4 :: o5 :: o6 :: o7 :: o8 :: o9 :: o10 :: o11 :: some (.double x) :: none :: Lr) st) : hG Γ k A Q M n z pc (o0 :: o1 :: o2 :: o3 :: o4 :: o5 :: o6 :: o7 :: o8 :: o9 :: o10 :: o11 :: y :: y2 :: Lr) (.double x :: st) :=
  gx_dstore (i := 12) C d (by simp) hp rfl hq kk
theorem g_astore12 {q : Nat} {o0 o1 o2 o3 o4 o5 o6 o7 o8 o9 o10 o11 : Option Value} {y : Option Value} {Lr : List (Option Value)} {v : Value} (C : hC Γ l k own nm cc nL ret rm A) (d : decode cc pc = .ok (.astore 12, 2)) (hv : hRef v) (hp : hNw o11 = true) (hq : pc + 2 = q) (kk : hG Γ k A Q M n z q (o0 :: o1 :: o2 :: o3 :: o4 :: o5 :: o6 :: o7 :: o8 :: o9 :: o10 :: o11 :: some v :: Lr) st) : hG Γ k A Q M n z pc (o0 :: o1 :: o2 :: o3 :: o4 :: o5 :: o6 :: o7 :: o8 :: o9 :: o10 :: o11 :: y :: Lr) (v :: st) :=
  gx_astore (i := 12) C d hv (by simp) hp rfl hq kk
theorem g_iinc12 {q : Nat} {o0 o1 o2 o3 o4 o5 o6 o7 o8 o9 o10 o11 : Option Value} {Lr : List (Option Value)} {j : Int} {x : Int32} (c : Int32) (C : hC Γ l k own nm cc nL ret rm A) (d : decode cc pc = .ok (.iinc 12 j, 3)) (hc : Int32.ofInt j = c) (hp : hNw o11 = true) (hq : pc + 3 = q) (kk : hG Γ k A Q M n z q (o0 :: o1 :: o2 :: o3 :: o4 :: o5 :: o6 :: o7 :: o8 :: o9 :: o10 :: o11 :: some (.int (x + c)) :: Lr) st) : hG Γ k A Q M n z pc (o0 :: o1 :: o2 :: o3 :: o4 :: o5 :: o6 :: o7 :: o8 :: o9 :: o10 :: o11 :: some (.int x) :: Lr) st :=
  gx_iinc c C d hc rfl hp rfl hq kk
theorem g_iadd {q : Nat} {x y : Int32} (C : hC Γ l k own nm cc nL ret rm A) (d : decode cc pc = .ok (.iadd, 1))  (hq : pc + 1 = q) (kk : hG Γ k A Q M n z q L (.int (x + y) :: st)) : hG Γ k A Q M n z pc L (.int y :: .int x :: st) := by
  subst hq
  intro H locs ls h1 h2 h3 h4
  exact lv_iadd C.ex C.cd d (kk H locs ls h1 h2 h3 h4)
theorem g_isub {q : Nat} {x y : Int32} (C : hC Γ l k own nm cc nL ret rm A) (d : decode cc pc = .ok (.isub, 1))  (hq : pc + 1 = q) (kk : hG Γ k A Q M n z q L (.int (x - y) :: st)) : hG Γ k A Q M n z pc L (.int y :: .int x :: st) := by
  subst hq
  intro H locs ls h1 h2 h3 h4
  exact lv_isub C.ex C.cd d (kk H locs ls h1 h2 h3 h4)
theorem g_imul {q : Nat} {x y : Int32} (C : hC Γ l k own nm cc nL ret rm A) (d : decode cc pc = .ok (.imul, 1))  (hq : pc + 1 = q) (kk : hG Γ k A Q M n z q L (.int (x * y) :: st)) : hG Γ k A Q M n z pc L (.int y :: .int x :: st) := by
  subst hq
  intro H locs ls h1 h2 h3 h4
  exact lv_imul C.ex C.cd d (kk H locs ls h1 h2 h3 h4)
theorem g_iand {q : Nat} {x y : Int32} (C : hC Γ l k own nm cc nL ret rm A) (d : decode cc pc = .ok (.iand, 1))  (hq : pc + 1 = q) (kk : hG Γ k A Q M n z q L (.int (x &&& y) :: st)) : hG Γ k A Q M n z pc L (.int y :: .int x :: st) := by
  subst hq
  intro H locs ls h1 h2 h3 h4
  exact lv_iand C.ex C.cd d (kk H locs ls h1 h2 h3 h4)
theorem g_idiv {q : Nat} {x y : Int32} (C : hC Γ l k own nm cc nL ret rm A) (d : decode cc pc = .ok (.idiv, 1)) (hne : ¬ y = 0) (hq : pc + 1 = q) (kk : hG Γ k A Q M n z q L (.int (x / y) :: st)) : hG Γ k A Q M n z pc L (.int y :: .int x :: st) := by
  subst hq
  intro H locs ls h1 h2 h3 h4
  exact lv_idiv C.ex C.cd d hne (kk H locs ls h1 h2 h3 h4)
/-- remainder -/
theorem g_irem {q : Nat} {x y : Int32} (C : hC Γ l k own nm cc nL ret rm A) (d : decode cc pc = .ok (.irem, 1)) (hne : ¬ y = 0) (hq : pc + 1 = q) (kk : hG Γ k A Q M n z q L (.int (x - x / y * y) :: st)) : hG Γ k A Q M n z pc L (.int y :: .int x :: st) := by
  subst hq
  intro H locs ls h1 h2 h3 h4
  exact lv_irem C.ex C.cd d hne (kk H locs ls h1 h2 h3 h4)
theorem g_ladd {q : Nat} {x y : Int64} (C : hC Γ l k own nm cc nL ret rm A) (d : decode cc pc = .ok (.ladd, 1))  (hq : pc + 1 = q) (kk : hG Γ k A Q M n z q L (.long (x + y) :: st)) : hG Γ k A Q M n z pc L (.long y :: .long x :: st) := by
  subst hq
  intro H locs ls h1 h2 h3 h4
  exact lv_ladd C.ex C.cd d (kk H locs ls h1 h2 h3 h4)
theorem g_lmul {q : Nat} {x y : Int64} (C : hC Γ l k own nm cc nL ret rm A) (d : decode cc pc = .ok (.lmul, 1))  (hq : pc + 1 = q) (kk : hG Γ k A Q M n z q L (.long (x * y) :: st)) : hG Γ k A Q M n z pc L (.long y :: .long x :: st) := by
  subst hq
  intro H locs ls h1 h2 h3 h4
  exact lv_lmul C.ex C.cd d (kk H locs ls h1 h2 h3 h4)
theorem g_i2l {q : Nat} {x : Int32} (C : hC Γ l k own nm cc nL ret rm A) (d : decode cc pc = .ok (.i2l, 1))  (hq : pc + 1 = q) (kk : hG Γ k A Q M n z q L (.long x.toInt64 :: st)) : hG Γ k A Q M n z pc L (.int x :: st) := by
  subst hq
  intro H locs ls h1 h2 h3 h4
  exact lv_i2l C.ex C.cd d rfl (kk H locs ls h1 h2 h3 h4)
theorem g_ishr {q : Nat} {x y : Int32} (C : hC Γ l k own nm cc nL ret rm A) (d : decode cc pc = .ok (.ishr, 1))  (hq : pc + 1 = q) (kk : hG Γ k A Q M n z q L (.int (x >>> (y &&& 31)) :: st)) : hG Γ k A Q M n z pc L (.int y :: .int x :: st) := by
  subst hq
  intro H locs ls h1 h2 h3 h4
  exact lv_ishr C.ex C.cd d (kk H locs ls h1 h2 h3 h4)
theorem g_i2d {q : Nat} {x : Int32} (C : hC Γ l k own nm cc nL ret rm A) (d : decode cc pc = .ok (.i2d, 1))  (hq : pc + 1 = q) (kk : hG Γ k A Q M n z q L (.double (FP.i2d x) :: st)) : hG Γ k A Q M n z pc L (.int x :: st) := by
  subst hq
  intro H locs ls h1 h2 h3 h4
  exact lv_i2d C.ex C.cd d (kk H locs ls h1 h2 h3 h4)
theorem g_dcmp {q : Nat} {x y : UInt64} {op : CmpOp} (C : hC Γ l k own nm cc nL ret rm A) (d : decode cc pc = .ok (.dcmp op, 1))  (hq : pc + 1 = q) (kk : hG Γ k A Q M n z q L (.int (Op.cmpValue (FP.dcmp x y) op) :: st)) : hG Γ k A Q M n z pc L (.double y :: .double x :: st) := by
  subst hq
  intro H locs ls h1 h2 h3 h4
  exact lv_dcmp C.ex C.cd d (kk H locs ls h1 h2 h3 h4)
theorem g_lcmp {q : Nat} {x y : Int64} (C : hC Γ l k own nm cc nL ret rm A) (d : decode cc pc = .ok (.lcmp, 1))  (hq : pc + 1 = q) (kk : hG Γ k A Q M n z q L (.int (lg_cmp x y) :: st)) : hG Γ k A Q M n z pc L (.long y :: .long x :: st) := by
  subst hq
  intro H locs ls h1 h2 h3 h4
  exact W.lcmp C.ex C.cd d (kk H locs ls h1 h2 h3 h4)
theorem g_dup {q : Nat} {v : Value} (C : hC Γ l k own nm cc nL ret rm A) (d : decode cc pc = .ok (.dup, 1)) (hv : v.category = 1) (hq : pc + 1 = q) (kk : hG Γ k A Q M n z q L (v :: v :: st)) : hG Γ k A Q M n z pc L (v :: st) := by
  subst hq
  intro H locs ls h1 h2 h3 h4
  exact lv_dup C.ex C.cd d hv (kk H locs ls h1 h2 h3 h4)
theorem g_dup2 {q : Nat} {v w : Value} (C : hC Γ l k own nm cc nL ret rm A) (d : decode cc pc = .ok (.dup2, 1)) (hv : v.category = 1) (hw : w.category = 1) (hq : pc + 1 = q) (kk : hG Γ k A Q M n z q L (v :: w :: v :: w :: st)) : hG Γ k A Q M n z pc L (v :: w :: st) := by
  subst hq
  intro H locs ls h1 h2 h3 h4
  exact lv_dup2_11 C.ex C.cd d hv hw (kk H locs ls h1 h2 h3 h4)
theorem g_dup_x1 {q : Nat} {v w : Value} (C : hC Γ l k own nm cc nL ret rm A) (d : decode cc pc = .ok (.dup_x1, 1)) (hv : v.category = 1) (hw : w.category = 1) (hq : pc + 1 = q) (kk : hG Γ k A Q M n z q L (v :: w :: v :: st)) : hG Γ k A Q M n z pc L (v :: w :: st) := by
  subst hq
  intro H locs ls h1 h2 h3 h4
  exact lv_dup_x1 C.ex C.cd d hv hw (kk H locs ls h1 h2 h3 h4)
theorem g_pop {q : Nat} {v : Value} (C : hC Γ l k own nm cc nL ret rm A) (d : decode cc pc = .ok (.pop, 1)) (hv : v.category = 1) (hq : pc + 1 = q) (kk : hG Γ k A Q M n z q L (st)) : hG Γ k A Q M n z pc L (v :: st) := by
  subst hq
  intro H locs ls h1 h2 h3 h4
  exact lv_pop C.ex C.cd d hv (kk H locs ls h1 h2 h3 h4)
theorem g_if_eq {t q : Nat} {off : Int} {x : Int32} (C : hC Γ l k own nm cc nL ret rm A) (d : decode cc pc = .ok (.ifCond .eq off, 3)) (ht : (pc : Int) + off = (t : Int)) (hq : pc + 3 = q) (kt : x = 0 → hG Γ k A Q M n z t L st) (kf : ¬ x = 0 → hG Γ k A Q M n z q L st) : hG Γ k A Q M n z pc L (.int x :: st) := by
  subst hq
  intro H locs ls h1 h2 h3 h4
  exact lv_if_eq C.ex C.cd d ht (fun h => kt h H locs ls h1 h2 h3 h4) (fun h => kf h H locs ls h1 h2 h3 h4)
theorem g_icmp_eq {t q : Nat} {off : Int} {x y : Int32} (C : hC Γ l k own nm cc nL ret rm A) (d : decode cc pc = .ok (.if_icmp .eq off, 3)) (ht : (pc : Int) + off = (t : Int)) (hq : pc + 3 = q) (kt : x = y → hG Γ k A Q M n z t L st) (kf : ¬ x = y → hG Γ k A Q M n z q L st) : hG Γ k A Q M n z pc L (.int y :: .int x :: st) := by
  subst hq
  intro H locs ls h1 h2 h3 h4
  exact lv_icmp_eq C.ex C.cd d ht (fun h => kt h H locs ls h1 h2 h3 h4) (fun h => kf h H locs ls h1 h2 h3 h4)
theorem g_if_ne {t q : Nat} {off : Int} {x : Int32} (C : hC Γ l k own nm cc nL ret rm A) (d : decode cc pc = .ok (.ifCond .ne off, 3)) (ht : (pc : Int) + off = (t : Int)) (hq : pc + 3 = q) (kt : ¬ x = 0 → hG Γ k A Q M n z t L st) (kf : x = 0 → hG Γ k A Q M n z q L st) : hG Γ k A Q M n z pc L (.int x :: st) := by
  subst hq
  intro H locs ls h1 h2 h3 h4
  exact lv_if_ne C.ex C.cd d ht (fun h => kt h H locs ls h1 h2 h3 h4) (fun h => kf h H locs ls h1 h2 h3 h4)
theorem g_icmp_ne {t q : Nat} {off : Int} {x y : Int32} (C : hC Γ l k own nm cc nL ret rm A) (d : decode cc pc = .ok (.if_icmp .ne off, 3)) (ht : (pc : Int) + off = (t : Int)) (hq : pc + 3 = q) (kt : ¬ x = y → hG Γ k A Q M n z t L st) (kf : x = y → hG Γ k A Q M n z q L st) : hG Γ k A Q M n z pc L (.int y :: .int x :: st) := by
  subst hq
  intro H locs ls h1 h2 h3 h4
  exact lv_icmp_ne C.ex C.cd d ht (fun h => kt h H locs ls h1 h2 h3 h4) (fun h => kf h H locs ls h1 h2 h3 h4)
theorem g_if_lt {t q : Nat} {off : Int} {x : Int32} (C : hC Γ l k own nm cc nL ret rm A) (d : decode cc pc = .ok (.ifCond .lt off, 3)) (ht : (pc : Int) + off = (t : Int)) (hq : pc + 3 = q) (kt : x < 0 → hG Γ k A Q M n z t L st) (kf : ¬ x < 0 → hG Γ k A Q M n z q L st) : hG Γ k A Q M n z pc L (.int x :: st) := by
  subst hq
  intro H locs ls h1 h2 h3 h4
  exact lv_if_lt C.ex C.cd d ht (fun h => kt h H locs ls h1 h2 h3 h4) (fun h => kf h H locs ls h1 h2 h3 h4)
theorem g_icmp_lt {t q : Nat} {off : Int} {x y : Int32} (C : hC Γ l k own nm cc nL ret rm A) (d : decode cc pc = .ok (.if_icmp .lt off, 3)) (ht : (pc : Int) + off = (t : Int)) (hq : pc + 3 = q) (kt : x < y → hG Γ k A Q M n z t L st) (kf : ¬ x < y → hG Γ k A Q M n z q L st) : hG Γ k A Q M n z pc L (.int y :: .int x :: st) := by
  subst hq
  intro H locs ls h1 h2 h3 h4
  exact lv_icmp_lt C.ex C.cd d ht (fun h => kt h H locs ls h1 h2 h3 h4) (fun h => kf h H locs ls h1 h2 h3 h4)
theorem g_if_ge {t q : Nat} {off : Int} {x : Int32} (C : hC Γ l k own nm cc nL ret rm A) (d : decode cc pc = .ok (.ifCond .ge off, 3)) (ht : (pc : Int) + off = (t : Int)) (hq : pc + 3 = q) (kt : 0 ≤ x → hG Γ k A Q M n z t L st) (kf : ¬ 0 ≤ x → hG Γ k A Q M n z q L st) : hG Γ k A Q M n z pc L (.int x :: st) := by
  subst hq
  intro H locs ls h1 h2 h3 h4
  exact lv_if_ge C.ex C.cd d ht (fun h => kt h H locs ls h1 h2 h3 h4) (fun h => kf h H locs ls h1 h2 h3 h4)
theorem g_icmp_ge {t q : Nat} {off : Int} {x y : Int32} (C : hC Γ l k own nm cc nL ret rm A) (d : decode cc pc = .ok (.if_icmp .ge off, 3)) (ht : (pc : Int) + off = (t : Int)) (hq : pc + 3 = q) (kt : y ≤ x → hG Γ k A Q M n z t L st) (kf : ¬ y ≤ x → hG Γ k A Q M n z q L st) : hG Γ k A Q M n z pc L (.int y :: .int x :: st) := by
  subst hq
  intro H locs ls h1 h2 h3 h4
  exact lv_icmp_ge C.ex C.cd d ht (fun h => kt h H locs ls h1 h2 h3 h4) (fun h => kf h H locs ls h1 h2 h3 h4)
theorem g_if_gt {t q : Nat} {off : Int} {x : Int32} (C : hC Γ l k own nm cc nL ret rm A) (d : decode cc pc = .ok (.ifCond .gt off, 3)) (ht : (pc : Int) + off = (t : Int)) (hq : pc + 3 = q) (kt : 0 < x → hG Γ k A Q M n z t L st) (kf : ¬ 0 < x → hG Γ k A Q M n z q L st) : hG Γ k A Q M n z pc L (.int x :: st) := by
  subst hq
  intro H locs ls h1 h2 h3 h4
  exact lv_if_gt C.ex C.cd d ht (fun h => kt h H locs ls h1 h2 h3 h4) (fun h => kf h H locs ls h1 h2 h3 h4)
theorem g_icmp_gt {t q : Nat} {off : Int} {x y : Int32} (C : hC Γ l k own nm cc nL ret rm A) (d : decode cc pc = .ok (.if_icmp .gt off, 3)) (ht : (pc : Int) + off = (t : Int)) (hq : pc + 3 = q) (kt : y < x → hG Γ k A Q M n z t L st) (kf : ¬ y < x → hG Γ k A Q M n z q L st) : hG Γ k A Q M n z pc L (.int y :: .int x :: st) := by
  subst hq
  intro H locs ls h1 h2 h3 h4
  exact lv_icmp_gt C.ex C.cd d ht (fun h => kt h H locs ls h1 h2 h3 h4) (fun h => kf h H locs ls h1 h2 h3 h4)
theorem g_if_le {t q : Nat} {off : Int} {x : Int32} (C : hC Γ l k own nm cc nL ret rm A) (d : decode cc pc = .ok (.ifCond .le off, 3)) (ht : (pc : Int) + off = (t : Int)) (hq : pc + 3 = q) (kt : x ≤ 0 → hG Γ k A Q M n z t L st) (kf : ¬ x ≤ 0 → hG Γ k A Q M n z q L st) : hG Γ k A Q M n z pc L (.int x :: st) := by
  subst hq
  intro H locs ls h1 h2 h3 h4
  exact lv_if_le C.ex C.cd d ht (fun h => kt h H locs ls h1 h2 h3 h4) (fun h => kf h H locs ls h1 h2 h3 h4)
theorem g_icmp_le {t q : Nat} {off : Int} {x y : Int32} (C : hC Γ l k own nm cc nL ret rm A) (d : decode cc pc = .ok (.if_icmp .le off, 3)) (ht : (pc : Int) + off = (t : Int)) (hq : pc + 3 = q) (kt : x ≤ y → hG Γ k A Q M n z t L st) (kf : ¬ x ≤ y → hG Γ k A Q M n z q L st) : hG Γ k A Q M n z pc L (.int y :: .int x :: st) := by
  subst hq
  intro H locs ls h1 h2 h3 h4
  exact lv_icmp_le C.ex C.cd d ht (fun h => kt h H locs ls h1 h2 h3 h4) (fun h => kf h H locs ls h1 h2 h3 h4)
/-- a truth value as the machine has it -/
def bI (b : Bool) : Int32 := if b then 1 else 0
theorem bI_0 {b : Bool} : bI b = 0 ↔ b = false := by cases b <;> decide
theorem bI_n {b : Bool} : ¬ bI b = 0 ↔ b = true := by cases b <;> decide
theorem g_ifB_eq {t q : Nat} {off : Int} {b : Bool} (C : hC Γ l k own nm cc nL ret rm A) (d : decode cc pc = .ok (.ifCond .eq off, 3)) (ht : (pc : Int) + off = (t : Int)) (hq : pc + 3 = q) (kt : b = false → hG Γ k A Q M n z t L st) (kf : b = true → hG Γ k A Q M n z q L st) : hG Γ k A Q M n z pc L (.int (bI b) :: st) :=
  g_if_eq C d ht hq (fun h => kt (bI_0.mp h)) (fun h => kf (bI_n.mp h))
theorem g_ifB_ne {t q : Nat} {off : Int} {b : Bool} (C : hC Γ l k own nm cc nL ret rm A) (d : decode cc pc = .ok (.ifCond .ne off, 3)) (ht : (pc : Int) + off = (t : Int)) (hq : pc + 3 = q) (kt : b = true → hG Γ k A Q M n z t L st) (kf : b = false → hG Γ k A Q M n z q L st) : hG Γ k A Q M n z pc L (.int (bI b) :: st) :=
  g_if_ne C d ht hq (fun h => kt (bI_n.mp h)) (fun h => kf (bI_0.mp h))
theorem g_goto {t : Nat} {off : Int} (C : hC Γ l k own nm cc nL ret rm A) (d : decode cc pc = .ok (.goto off, 3)) (ht : (pc : Int) + off = (t : Int)) (kk : hG Γ k A Q M n z t L st) : hG Γ k A Q M n z pc L st :=
  fun H locs ls h1 h2 h3 h4 => lv_goto C.ex C.cd d ht (kk H locs ls h1 h2 h3 h4)
theorem g_ifnullR {q : Nat} {off : Int} {a : Nat} (C : hC Γ l k own nm cc nL ret rm A) (d : decode cc pc = .ok (.ifnull off, 3)) (hq : pc + 3 = q) (kk : hG Γ k A Q M n z q L st) : hG Γ k A Q M n z pc L (.ref a :: st) := by
  subst hq
  exact fun H locs ls h1 h2 h3 h4 => lv_ifnull C.ex C.cd d (kk H locs ls h1 h2 h3 h4)
theorem g_ifnullN {t : Nat} {off : Int} (C : hC Γ l k own nm cc nL ret rm A) (d : decode cc pc = .ok (.ifnull off, 3)) (ht : (pc : Int) + off = (t : Int)) (kk : hG Γ k A Q M n z t L st) : hG Γ k A Q M n z pc L (.null :: st) :=
  fun H locs ls h1 h2 h3 h4 => lv_ifnullN C.ex C.cd d ht (kk H locs ls h1 h2 h3 h4)
theorem g_ifnonnullR {t : Nat} {off : Int} {a : Nat} (C : hC Γ l k own nm cc nL ret rm A) (d : decode cc pc = .ok (.ifnonnull off, 3)) (ht : (pc : Int) + off = (t : Int)) (kk : hG Γ k A Q M n z t L st) : hG Γ k A Q M n z pc L (.ref a :: st) :=
  fun H locs ls h1 h2 h3 h4 => lv_ifnonnull C.ex C.cd d ht (kk H locs ls h1 h2 h3 h4)
theorem g_ifnonnullN {q : Nat} {off : Int} (C : hC Γ l k own nm cc nL ret rm A) (d : decode cc pc = .ok (.ifnonnull off, 3)) (hq : pc + 3 = q) (kk : hG Γ k A Q M n z q L st) : hG Γ k A Q M n z pc L (.null :: st) := by
  subst hq
  exact fun H locs ls h1 h2 h3 h4 => lv_ifnonnullN C.ex C.cd d (kk H locs ls h1 h2 h3 h4)
theorem g_ifnull {t q : Nat} {off : Int} {o : Option Nat} (C : hC Γ l k own nm cc nL ret rm A) (d : decode cc pc = .ok (.ifnull off, 3)) (ht : (pc : Int) + off = (t : Int)) (hq : pc + 3 = q) (kt : o = none → hG Γ k A Q M n z t L st) (kf : ∀ a, o = some a → hG Γ k A Q M n z q L st) : hG Γ k A Q M n z pc L (va_rf o :: st) := by
  cases o with
  | none => exact g_ifnullN C d ht (kt rfl)
  | some a => exact g_ifnullR C d hq (kf a rfl)
theorem g_ifnonnull {t q : Nat} {off : Int} {o : Option Nat} (C : hC Γ l k own nm cc nL ret rm A) (d : decode cc pc = .ok (.ifnonnull off, 3)) (ht : (pc : Int) + off = (t : Int)) (hq : pc + 3 = q) (kt : ∀ a, o = some a → hG Γ k A Q M n z t L st) (kf : o = none → hG Γ k A Q M n z q L st) : hG Γ k A Q M n z pc L (va_rf o :: st) := by
  cases o with
  | none => exact g_ifnonnullN C d hq (kf rfl)
  | some a => exact g_ifnonnullR C d ht (kt a rfl)
theorem g_acmp_ne {t q : Nat} {off : Int} {rx ry : Option Nat} {vx vy : Value} (C : hC Γ l k own nm cc nL ret rm A) (d : decode cc pc = .ok (.if_acmp .ne off, 3)) (hx : vx = va_rf rx) (hy : vy = va_rf ry) (ht : (pc : Int) + off = (t : Int)) (hq : pc + 3 = q) (kt : ¬ rx = ry → hG Γ k A Q M n z t L st) (kf : rx = ry → hG Γ k A Q M n z q L st) : hG Γ k A Q M n z pc L (vy :: vx :: st) := by
  subst hq; subst hx; subst hy
  exact fun H locs ls h1 h2 h3 h4 => lv_acmp_ne C.ex C.cd d ht (fun h => kt h H locs ls h1 h2 h3 h4) (fun h => kf h H locs ls h1 h2 h3 h4)
theorem g_acmp_eq {t q : Nat} {off : Int} {rx ry : Option Nat} {vx vy : Value} (C : hC Γ l k own nm cc nL ret rm A) (d : decode cc pc = .ok (.if_acmp .eq off, 3)) (hx : vx = va_rf rx) (hy : vy = va_rf ry) (ht : (pc : Int) + off = (t : Int)) (hq : pc + 3 = q) (kt : rx = ry → hG Γ k A Q M n z t L st) (kf : ¬ rx = ry → hG Γ k A Q M n z q L st) : hG Γ k A Q M n z pc L (vy :: vx :: st) := by
  subst hq; subst hx; subst hy
  exact fun H locs ls h1 h2 h3 h4 => lv_acmp_eq C.ex C.cd d ht (fun h => kt h H locs ls h1 h2 h3 h4) (fun h => kf h H locs ls h1 h2 h3 h4)
theorem g_tswO {t : Nat} {dflt lo hi : Int} {offs : Array Int} {len : Nat} {x : Int32} (C : hC Γ l k own nm cc nL ret rm A) (d : decode cc pc = .ok (.tableswitch dflt lo hi offs, len)) (h : x.toInt < lo ∨ hi < x.toInt) (ht : (pc : Int) + dflt = (t : Int)) (kk : hG Γ k A Q M n z t L st) : hG Γ k A Q M n z pc L (.int x :: st) :=
  fun H locs ls h1 h2 h3 h4 => lv_tableOut C.ex C.cd d h ht (kk H locs ls h1 h2 h3 h4)
theorem g_tswI {t : Nat} {dflt lo hi : Int} {offs : Array Int} {len : Nat} {x : Int32} {off : Int} (v : Int) (C : hC Γ l k own nm cc nL ret rm A) (d : decode cc pc = .ok (.tableswitch dflt lo hi offs, len)) (hv : x.toInt = v) (h1 : ¬ v < lo) (h2 : ¬ hi < v) (ho : offs[(v - lo).toNat]? = some off) (ht : (pc : Int) + off = (t : Int)) (kk : hG Γ k A Q M n z t L st) : hG Γ k A Q M n z pc L (.int x :: st) := by
  subst hv
  exact fun H locs ls g1 g2 g3 g4 => lv_tableIn C.ex C.cd d h1 h2 ho ht (kk H locs ls g1 g2 g3 g4)
/-! fields -/
def hCls (ci : Nat) (Cn : String) (T : u_T) (N : Nat) (ty : Nat → FieldType) : Prop := (∀ w ∈ u_ws Cn T N, w ∈ hTbl) ∧ (∀ k, k < N → parseFieldDescriptor (T k).2.2.1 = some (ty k)) ∧ (∀ a, a < N → ∀ b, b < N → a ≠ b → (T a).2.1 ≠ (T b).2.1) ∧ vwCl[ci]? = some (Cn, T, N)
section Fld
variable {Cn ref : String} {T : u_T} {N ci index a : Nat} {ty : Nat → FieldType} {w : Bool} {fs : List Value} {v : Value}
theorem g_get {q : Nat} (C : hC Γ l k own nm cc nL ret rm A) (K : hCls ci Cn T N ty) (j : Nat) (hj : j < N) (hlink : Cond.fieldLink own index ref (T j).2.1 (T j).2.2.1 ∈ hTbl) (hsame : (T j).1 = ref) (d : decode cc pc = .ok (.getfield index, 3)) (hM : M a = some (w, .inr (ci, fs))) (hv : fs[j]? = some v) (hq : pc + 3 = q) (kk : hG Γ k A Q M n z q L (v :: st)) : hG Γ k A Q M n z pc L (.ref a :: st) := by
  subst hq
  intro H locs ls h1 h2 h3 h4
  exact va_get (D := Γ.1) (cl := vwCl) C.ex C.cd C.ts K.1 C.ow C.hk (h1.one hM) 0 rfl K.2.2.2 j hj (C.ts _ hlink) (fun x hx => by rw [← hsame]; exact hx) hv d (kk H locs ls h1 h2 h3 h4)
theorem g_getN {q : Nat} {host : String} (C : hC Γ l k own nm cc nL ret rm A) (K : hCls ci Cn T N ty) (j : Nat) (hj : j < N) (hlink : Cond.fieldLinkNest own index ref (T j).2.1 (T j).2.2.1 host ∈ hNest) (hsame : (T j).1 = ref) (d : decode cc pc = .ok (.getfield index, 3)) (hM : M a = some (w, .inr (ci, fs))) (hv : fs[j]? = some v) (hq : pc + 3 = q) (kk : hG Γ k A Q M n z q L (v :: st)) : hG Γ k A Q M n z pc L (.ref a :: st) := by
  subst hq
  intro H locs ls h1 h2 h3 h4
  exact va_getN (D := Γ.1) (cl := vwCl) C.ex C.cd C.ts K.1 C.ow C.hk (h1.one hM) 0 rfl K.2.2.2 j hj (va_Nw.use rfl (C.hx.2.2.2.2.1 _ hlink)) (fun x hx => by rw [← hsame]; exact hx) hv d (kk H locs ls h1 h2 h3 h4)
theorem g_put {q : Nat} (C : hC Γ l k own nm cc nL ret rm A) (K : hCls ci Cn T N ty) (j : Nat) (hj : j < N) (hlink : Cond.fieldLink own index ref (T j).2.1 (T j).2.2.1 ∈ hTbl) (hsame : (T j).1 = ref) (hfin : (T j).2.2.2 = false) (hn : narrow (ty j) v = v) (hfit : fits (ty j) v = true) (d : decode cc pc = .ok (.putfield index, 3)) (hM : M a = some (true, .inr (ci, fs))) (hl : j < fs.length) (hq : pc + 3 = q) (kk : hG Γ k A Q (hU M a (.inr (ci, fs.set j v))) n z q L st) : hG Γ k A Q M n z pc L (v :: .ref a :: st) := by
  subst hq
  intro H locs ls h1 h2 h3 h4
  obtain ⟨hin, hty, hnm, hc⟩ := K
  have hap := va_apart (own := own) (D := Γ.1) (cl := vwCl) C.ts hin ty hty hnm C.hk hc
  obtain ⟨r, g1, cell, q1, q2, q3, q4⟩ := h1 a _ hM
  have hr : r = (Cn, T, N) := Option.some.inj (g1.symm.trans hc)
  subst hr
  obtain ⟨hS, hfc, kC9, hkC, hkind⟩ := C.hk.1 ci _ hc
  obtain ⟨cf, kf, fi, f, hi, hsl⟩ := hS j hj
  have hlay := C.ts _ (hin _ (u_in_lay hj))
  unfold u_lay at hlay
  rw [if_neg (by rw [hfin]; decide)] at hlay
  have hst := (u_facts hfc hkC (u_lays C.ts hin hj) hi).1
  have h6 := u_store hfc hkC hkind hlay hi (hty j hj) hn hfit
  refine W.putK C.ex C.cd (f := f) ⟨C.ow, C.ts _ hlink, ⟨_, _, _, by rw [← hsame]; exact hi⟩, hst⟩ (by rw [q2]; exact h6) q1 q3 (by rw [hsl]; exact k2_hasslot (q4 j hj)) rfl rfl d fun H' e1 e2 e3 => ?_
  rw [hsl] at e1 ⊢
  refine kk H' _ ls (h1.put ⟨_, hc, t_OB.to (V := updV (vp_V fs) j v) ⟨_, e1, q2, q3, t_set q4 hap hj v⟩ (fun i _ => vp_updV_set hl v i)⟩ e3) (h2.put (h2 a _ hM)) (h3.put e2 e3 (h2 a _ hM)) h4
theorem g_putF {q : Nat} (C : hC Γ l k own nm cc nL ret rm A) (K : hCls ci Cn T N ty) (j : Nat) (hj : j < N) (hlink : Cond.fieldLink own index ref (T j).2.1 (T j).2.2.1 ∈ hTbl) (hsame : (T j).1 = ref) (hfin : (T j).2.2.2 = true) (hini : nm = "<init>") (hdecl : (T j).1 = own) (hn : narrow (ty j) v = v) (hfit : fits (ty j) v = true) (d : decode cc pc = .ok (.putfield index, 3)) (hM : M a = some (true, .inr (ci, fs))) (hl : j < fs.length) (hq : pc + 3 = q) (kk : hG Γ k A Q (hU M a (.inr (ci, fs.set j v))) n z q L st) : hG Γ k A Q M n z pc L (v :: .ref a :: st) := by
  subst hq
  intro H locs ls h1 h2 h3 h4
  obtain ⟨hin, hty, hnm, hc⟩ := K
  have hap := va_apart (own := own) (D := Γ.1) (cl := vwCl) C.ts hin ty hty hnm C.hk hc
  obtain ⟨r, g1, cell, q1, q2, q3, q4⟩ := h1 a _ hM
  have hr : r = (Cn, T, N) := Option.some.inj (g1.symm.trans hc)
  subst hr
  obtain ⟨hS, hfc, kC9, hkC, hkind⟩ := C.hk.1 ci _ hc
  obtain ⟨cf, kf, fi, f, hi, hsl⟩ := hS j hj
  have hlay := C.ts _ (hin _ (u_in_lay hj))
  unfold u_lay at hlay
  rw [if_pos hfin] at hlay
  have hst := (u_facts hfc hkC (u_lays C.ts hin hj) hi).1
  have hcf : (kM k).cls = cf := by
    obtain ⟨_, _, c', _, _, _, -, -, hf', -, -, -, hown2, -⟩ := Cond.laysFinal_spec hlay
    have e1 : c' = cf := by have := hi.symm.trans hf'; simp at this; exact this.1.symm
    rw [hdecl] at hown2
    rw [← e1]; exact Option.some.inj (C.ow.symm.trans hown2)
  have h6 := u_fits hfc hkC hkind (Or.inr hlay) hi (hty j hj) hn hfit
  refine W.putFinK C.ex C.cd C.ow (C.ts _ hlink) (by rw [← hsame]; exact hi) hst hcf (by rw [C.na]; exact hini) (by rw [q2]; exact h6) q1 q3 (by rw [hsl]; exact k2_hasslot (q4 j hj)) rfl rfl d fun H' e1 e2 e3 => ?_
  rw [hsl] at e1 ⊢
  refine kk H' _ ls (h1.put ⟨_, hc, t_OB.to (V := updV (vp_V fs) j v) ⟨_, e1, q2, q3, t_set q4 hap hj v⟩ (fun i _ => vp_updV_set hl v i)⟩ e3) (h2.put (h2 a _ hM)) (h3.put e2 e3 (h2 a _ hM)) h4
/-- a new object: its fields hold their types' first values; it lies where nothing lay -/
theorem g_new {q : Nat} (C : hC Γ l k own nm cc nL ret rm A) (K : hCls ci Cn T N ty) (hcl : Cond.classLink own index Cn ∈ hTbl) (hinst : Cond.instantiable Cn N ∈ hTbl) (hini : Cond.initialized Cn ∈ hTbl) {fs : List Value} (hfs : ∀ j, j < N → defaultValue (ty j) = vp_V fs j) (hcells : n + 1 ≤ rm.cells) (hslots : z + N ≤ rm.slots) (d : decode cc pc = .ok (.new index, 3)) (hq : pc + 3 = q) (kk : ∀ b : Nat, M b = none → hG Γ k A Q (hU M b (.inr (ci, fs))) (n + 1) (z + N) q L (.ref b :: st)) : hG Γ k A Q M n z pc L st := by
  subst hq
  intro H locs ls h1 h2 h3 h4
  obtain ⟨hin, hty, hnm, hc⟩ := K
  have hKn := C.hk.1 ci _ hc
  have hA : A H.size := C.ha _ h3.1
  refine W.newcK C.ex C.cd C.ow (C.ts _ hcl) (C.ts _ hinst) (C.ts _ hini) rfl d (by rw [C.ro]; exact hcells) (by rw [C.ro]; exact hslots) hKn.2.1 rfl fun H1 kC9 hkC e1 z1 o1 => ?_
  have hfr : M H.size = none := h1.fresh (Nat.le_refl _)
  refine kk H.size hfr H1 locs ls (fun b x hx => ?_) (h2.put hA) ⟨Nat.le_trans h3.1 (by omega), fun x g1 g2 => (o1 x (Nat.lt_of_lt_of_le g1 h3.1)).trans (h3.2.1 x g1 g2), h3.2.2⟩ h4
  by_cases hb : b = H.size
  · subst hb
    rw [hU_s] at hx
    cases hx
    exact ⟨_, hc, (u_born ty C.ts hin hKn hkC e1 hty).to hfs⟩
  · rw [hU_n hb] at hx
    exact (h1 b x hx).kept (o1 b (h1.lt hx))
end Fld
theorem g_objInit {q index a : Nat} (C : hC Γ l k own nm cc nL ret rm A) (hlink : Cond.methodLink own index Lib.objectInit ∈ hTbl) (hinst : Cond.instanceMethod Lib.objectInit ∈ hTbl) (hcode : Cond.code Lib.objectInit ⟨#[0xb1]⟩ 1 none ∈ hTbl) (hsz : L.length = nL) (d : decode cc pc = .ok (.invokespecial index, 3)) (hf : 1 ≤ rm.frames) (hlo : (st.map fun v => v.category).sum + 12 ≤ rm.locals) (hq : pc + 3 = q) (kk : hG Γ k A Q M n z q L st) : hG Γ k A Q M n z pc L (.ref a :: st) := by
  subst hq
  intro H locs ls h1 h2 h3 h4
  exact W.objInit C.ex C.cd C.ow (C.ts _ hlink) (C.ts _ hinst) (C.ts _ hcode) rfl (by rw [C.ml, ← hsz]; exact h4.1) rfl d (by rw [C.ro]; exact hf) (by rw [C.ro]; show 2 * 0 + _ + 12 ≤ _; omega) (kk H locs ls h1 h2 h3 h4)
theorem g_max {q index : Nat} {x y : Int32} (C : hC Γ l k own nm cc nL ret rm A) (hlink : Cond.methodLink own index Lib.Math.max.name ∈ hTbl) (hsz : L.length = nL) (d : decode cc pc = .ok (.invokestatic index, 3)) (hf : 1 ≤ rm.frames) (hlo : (st.map fun v => v.category).sum + 13 ≤ rm.locals) (hc : n ≤ rm.cells) (hs : z ≤ rm.slots) (hq : pc + 3 = q) (hw : Cond.static Lib.Math.max.name ∈ hTbl ∧ Cond.initialized "java/lang/Math" ∈ hTbl ∧ Cond.code Lib.Math.max.name Lib.Math.max.code 2 (some .int) ∈ hTbl) (kk : hG Γ k A Q M n z q L (.int (if x < y then y else x) :: st)) : hG Γ k A Q M n z pc L (.int y :: .int x :: st) := by
  subst hq
  intro H locs ls h1 h2 h3 h4
  exact va_mmax C.ex C.cd (by rw [C.ml, ← hsz]; exact h4.1.symm) C.ow (C.ts _ hlink) (C.ts _ hw.1) (C.ts _ hw.2.1) (C.ts _ hw.2.2) (by rw [C.ro]; exact hf) (by rw [C.ro]; exact hlo) (by rw [C.ro]; exact hc) (by rw [C.ro]; exact hs) d (kk H locs ls h1 h2 h3 h4)
theorem g_min {q index : Nat} {x y : Int32} (C : hC Γ l k own nm cc nL ret rm A) (hlink : Cond.methodLink own index Lib.Math.min.name ∈ hTbl) (hsz : L.length = nL) (d : decode cc pc = .ok (.invokestatic index, 3)) (hf : 1 ≤ rm.frames) (hlo : (st.map fun v => v.category).sum + 13 ≤ rm.locals) (hc : n ≤ rm.cells) (hs : z ≤ rm.slots) (hq : pc + 3 = q) (hw : Cond.static Lib.Math.min.name ∈ hTbl ∧ Cond.initialized "java/lang/Math" ∈ hTbl ∧ Cond.code Lib.Math.min.name Lib.Math.min.code 2 (some .int) ∈ hTbl) (kk : hG Γ k A Q M n z q L (.int (if y < x then y else x) :: st)) : hG Γ k A Q M n z pc L (.int y :: .int x :: st) := by
  subst hq
  intro H locs ls h1 h2 h3 h4
  exact va_mmin C.ex C.cd (by rw [C.ml, ← hsz]; exact h4.1.symm) C.ow (C.ts _ hlink) (C.ts _ hw.1) (C.ts _ hw.2.1) (C.ts _ hw.2.2) (by rw [C.ro]; exact hf) (by rw [C.ro]; exact hlo) (by rw [C.ro]; exact hc) (by rw [C.ro]; exact hs) d (kk H locs ls h1 h2 h3 h4)
end hRows
end
section
/-- a class that is found has its row -/
theorem hFound {s : State} {nm : String} {c : ClassId} (h : s.vm.findClass nm = some c) : ∃ kK : Class, s.vm.classes[c]? = some kK := by
  have h2 := h
  unfold Vm.findClass at h2
  obtain ⟨hlt, -⟩ := Array.findIdx?_eq_some_iff_getElem.mp h2
  exact ⟨_, Array.getElem?_eq_getElem hlt⟩
section hRows2
variable {Γ : hGam} {l : Launch} {k : hCtx} {own nm : String} {cc : ByteArray} {nL : Nat} {ret : Option FieldType} {rm : Room} {A : Nat → Prop} {Q : State → Prop} {M : hM} {n z pc : Nat} {L : List (Option Value)} {st : List Value}
/-! arrays -/
abbrev aI (Γ : hGam) (N : Nat) (f : Nat → Int32) : va_E := .inl (Γ.2.1 0, N, .inl f)
abbrev aJ (Γ : hGam) (N : Nat) (f : Nat → Int64) : va_E := .inl (Γ.2.1 1, N, .inr (.inl f))
abbrev aH (Γ : hGam) (N : Nat) (f : Nat → Option Nat) : va_E := .inl (Γ.2.1 2, N, .inr (.inr (.inr (.inr f))))
abbrev aO (Γ : hGam) (N : Nat) (f : Nat → Option Nat) : va_E := .inl (Γ.2.1 3, N, .inr (.inr (.inr (.inr f))))
theorem h_in {i : Int32} {j N : Nat} (hi : i = nI j) (hj : j < N) (hN : N < 2 ^ 31) : vp_in i N := by rw [hi]; exact vp_in_nI hj hN
theorem h_cl {i : Int32} {j N : Nat} (hi : i = nI j) (hj : j < N) (hN : N < 2 ^ 31) : i.toNatClampNeg = j := by rw [hi]; exact nI_clamp (by omega)
theorem g_iald {q a N : Nat} {w : Bool} {f : Nat → Int32} {i : Int32} (C : hC Γ l k own nm cc nL ret rm A) (j : Nat) (hi : i = nI j) (hj : j < N) (hN : N < 2 ^ 31) (d : decode cc pc = .ok (.iaload, 1)) (hM : M a = some (w, aI Γ N f)) (hq : pc + 1 = q) (kk : hG Γ k A Q M n z q L (.int (f j) :: st)) : hG Γ k A Q M n z pc L (.int i :: .ref a :: st) := by
  subst hq
  intro H locs ls h1 h2 h3 h4
  refine va_iald (D := Γ.1) (cl := vwCl) C.ex C.cd C.hk (h1.one hM) 0 0 rfl rfl (h_in hi hj hN) d ?_
  rw [h_cl hi hj hN]
  exact kk H locs ls h1 h2 h3 h4
theorem g_lald {q a N : Nat} {w : Bool} {f : Nat → Int64} {i : Int32} (C : hC Γ l k own nm cc nL ret rm A) (j : Nat) (hi : i = nI j) (hj : j < N) (hN : N < 2 ^ 31) (d : decode cc pc = .ok (.laload, 1)) (hM : M a = some (w, aJ Γ N f)) (hq : pc + 1 = q) (kk : hG Γ k A Q M n z q L (.long (f j) :: st)) : hG Γ k A Q M n z pc L (.int i :: .ref a :: st) := by
  subst hq
  intro H locs ls h1 h2 h3 h4
  refine va_lald (D := Γ.1) (cl := vwCl) C.ex C.cd C.hk (h1.one hM) 0 1 rfl rfl (h_in hi hj hN) d ?_
  rw [h_cl hi hj hN]
  exact kk H locs ls h1 h2 h3 h4
theorem g_aaldH {q a N : Nat} {w : Bool} {f : Nat → Option Nat} {i : Int32} (C : hC Γ l k own nm cc nL ret rm A) (j : Nat) (hi : i = nI j) (hj : j < N) (hN : N < 2 ^ 31) (d : decode cc pc = .ok (.aaload, 1)) (hM : M a = some (w, aH Γ N f)) (hq : pc + 1 = q) (kk : hG Γ k A Q M n z q L (va_rf (f j) :: st)) : hG Γ k A Q M n z pc L (.int i :: .ref a :: st) := by
  subst hq
  intro H locs ls h1 h2 h3 h4
  refine va_aldq (D := Γ.1) (cl := vwCl) C.ex C.cd C.hk (h1.one hM) 0 2 rfl rfl (h_in hi hj hN) d ?_
  rw [h_cl hi hj hN]
  exact kk H locs ls h1 h2 h3 h4
theorem g_aaldO {q a N : Nat} {w : Bool} {f : Nat → Option Nat} {i : Int32} (C : hC Γ l k own nm cc nL ret rm A) (j : Nat) (hi : i = nI j) (hj : j < N) (hN : N < 2 ^ 31) (d : decode cc pc = .ok (.aaload, 1)) (hM : M a = some (w, aO Γ N f)) (hq : pc + 1 = q) (kk : hG Γ k A Q M n z q L (va_rf (f j) :: st)) : hG Γ k A Q M n z pc L (.int i :: .ref a :: st) := by
  subst hq
  intro H locs ls h1 h2 h3 h4
  refine va_aldq (D := Γ.1) (cl := vwCl) C.ex C.cd C.hk (h1.one hM) 0 3 rfl rfl (h_in hi hj hN) d ?_
  rw [h_cl hi hj hN]
  exact kk H locs ls h1 h2 h3 h4
theorem g_iast {q a N : Nat} {f : Nat → Int32} {i : Int32} {x : Int32} (C : hC Γ l k own nm cc nL ret rm A) (j : Nat) (hi : i = nI j) (hj : j < N) (hN : N < 2 ^ 31) (d : decode cc pc = .ok (.iastore, 1)) (hM : M a = some (true, aI Γ N f)) (hq : pc + 1 = q) (kk : hG Γ k A Q (hU M a (aI Γ N (upd f j x))) n z q L st) : hG Γ k A Q M n z pc L (.int x :: .int i :: .ref a :: st) := by
  subst hq
  intro H locs ls h1 h2 h3 h4
  have hin := h_in hi hj hN
  have hcl := h_cl hi hj hN
  refine W.iast C.ex C.cd (h1 a _ hM) ((C.hk.2 0 _ rfl).1 N (fun j => .int (f j))) (fun q => by cases q) (by show ¬ (i < 0 ∨ (arrV _ _ _).slots.size ≤ _); rw [arrV_size]; exact hin) rfl rfl d fun H1 e zz oq => ?_
  refine kk H1 _ ls (h1.put ?_ oq) (h2.put (h2 a _ hM)) (h3.put zz oq (h2 a _ hM)) h4
  show H1[a]? = some (vp_cell _ _)
  rw [e, vp_cell_i, vp_cell_i, arrV_store, hcl]
  congr 2
  funext q
  by_cases hq : q = j
  · subst hq
    simp [updV, upd, vp_updL]
  · simp [updV, upd, vp_updL, hq]
theorem g_last {q a N : Nat} {f : Nat → Int64} {i : Int32} {x : Int64} (C : hC Γ l k own nm cc nL ret rm A) (j : Nat) (hi : i = nI j) (hj : j < N) (hN : N < 2 ^ 31) (d : decode cc pc = .ok (.lastore, 1)) (hM : M a = some (true, aJ Γ N f)) (hq : pc + 1 = q) (kk : hG Γ k A Q (hU M a (aJ Γ N (vp_updL f j x))) n z q L st) : hG Γ k A Q M n z pc L (.long x :: .int i :: .ref a :: st) := by
  subst hq
  intro H locs ls h1 h2 h3 h4
  have hin := h_in hi hj hN
  have hcl := h_cl hi hj hN
  refine W.last C.ex C.cd (h1 a _ hM) ((C.hk.2 1 _ rfl).1 N (fun j => .long (f j))) (fun q => by cases q) (by show ¬ (i < 0 ∨ (arrV _ _ _).slots.size ≤ _); rw [arrV_size]; exact hin) rfl rfl d fun H1 e zz oq => ?_
  refine kk H1 _ ls (h1.put ?_ oq) (h2.put (h2 a _ hM)) (h3.put zz oq (h2 a _ hM)) h4
  show H1[a]? = some (vp_cell _ _)
  rw [e, vp_cell_l, vp_cell_l, arrV_store, hcl]
  congr 2
  funext q
  by_cases hq : q = j
  · subst hq
    simp [updV, upd, vp_updL]
  · simp [updV, upd, vp_updL, hq]
theorem g_aastH {q a N v : Nat} {w : Bool} {f : Nat → Option Nat} {i : Int32} {vs : List Value} (C : hC Γ l k own nm cc nL ret rm A) (j : Nat) (hi : i = nI j) (hj : j < N) (hN : N < 2 ^ 31) (d : decode cc pc = .ok (.aastore, 1)) (hM : M a = some (true, aH Γ N f)) (hv : M v = some (w, .inr (2, vs))) (hq : pc + 1 = q) (kk : hG Γ k A Q (hU M a (aH Γ N (va_up f j (some v)))) n z q L st) : hG Γ k A Q M n z pc L (.ref v :: .int i :: .ref a :: st) := by
  subst hq
  intro H locs ls h1 h2 h3 h4
  have hcl := h_cl hi hj hN
  have hn0 : ¬ i < 0 := fun q => h_in hi hj hN (Or.inl q)
  obtain ⟨r', hr', cellV, g1, g2, g3, -⟩ := h1 v _ hv
  have hcls := (C.hk.1 2 _ rfl).2
  obtain ⟨kA9, comp, k1, k2, k3, -⟩ := (C.hk.2 2 _ rfl).2
  have hcomp : comp = Γ.1.1 2 := Option.some.inj (k3.symm.trans hcls.1)
  subst hcomp
  obtain ⟨kC9, hkC, -⟩ := hcls.2
  refine W.aast C.ex C.cd (h1 a _ hM) (fun q h => by cases h) (fun h => by cases h) k1 k2 rfl hkC ⟨hn0, by show _ < (arrV _ _ _).slots.size; rw [arrV_size, hcl]; exact hj⟩ g1 (fun q h => by rw [g3] at h; cases h) (by rw [g2]; exact hkC) (by rw [g2]; exact va_assign hcls) rfl rfl d fun H1 e zz oq => ?_
  refine kk H1 _ ls (h1.put ?_ oq) (h2.put (h2 a _ hM)) (h3.put zz oq (h2 a _ hM)) h4
  show H1[a]? = some (vp_cell _ _)
  rw [e, vp_cell_q, vp_cell_q, arrV_store, hcl]
  congr 2
  funext q
  by_cases hq : q = j
  · subst hq
    simp [updV, va_up, va_rf]
  · simp [updV, va_up, hq]
/-- an object of a class that may be cast to Object, into an array of Objects -/
theorem g_aastO {q a N v ci : Nat} {w : Bool} {r : vw_C} {f : Nat → Option Nat} {i : Int32} {vs : List Value} (C : hC Γ l k own nm cc nL ret rm A) (j : Nat) (hi : i = nI j) (hj : j < N) (hN : N < 2 ^ 31) (d : decode cc pc = .ok (.aastore, 1)) (hM : M a = some (true, aO Γ N f)) (hv : M v = some (w, .inr (ci, vs))) (hcl2 : vwCl[ci]? = some r) (hcast : Cond.castable r.1 "java/lang/Object" ∈ hNest) (hq : pc + 1 = q) (kk : hG Γ k A Q (hU M a (aO Γ N (va_up f j (some v)))) n z q L st) : hG Γ k A Q M n z pc L (.ref v :: .int i :: .ref a :: st) := by
  subst hq
  intro H locs ls h1 h2 h3 h4
  have hcl := h_cl hi hj hN
  have hn0 : ¬ i < 0 := fun q => h_in hi hj hN (Or.inl q)
  obtain ⟨r', hr', cellV, g1, g2, g3, -⟩ := h1 v _ hv
  have hrr : r' = r := Option.some.inj (hr'.symm.trans hcl2)
  subst hrr
  have hcls := (C.hk.1 ci _ hcl2).2
  obtain ⟨kA9, comp, k1, k2, k3, -⟩ := (C.hk.2 3 _ rfl).2
  obtain ⟨c0, t0, f1, f2, f3⟩ := Cond.castable_spec (va_Nw.use (A := kA k) rfl (C.hx.2.2.2.2.1 _ hcast))
  have e1 : c0 = Γ.1.1 ci := Option.some.inj (f1.symm.trans hcls.1)
  have e2 : t0 = comp := Option.some.inj (f2.symm.trans k3)
  subst e2
  obtain ⟨kC9, hkC, -⟩ := hcls.2
  obtain ⟨kK9, hkK⟩ := hFound f2
  refine W.aast C.ex C.cd (h1 a _ hM) (fun q h => by cases h) (fun h => by cases h) k1 k2 rfl hkK ⟨hn0, by show _ < (arrV _ _ _).slots.size; rw [arrV_size, hcl]; exact hj⟩ g1 (fun q h => by rw [g3] at h; cases h) (by rw [g2]; exact hkC) (by rw [g2, ← e1]; exact f3) rfl rfl d fun H1 e zz oq => ?_
  refine kk H1 _ ls (h1.put ?_ oq) (h2.put (h2 a _ hM)) (h3.put zz oq (h2 a _ hM)) h4
  show H1[a]? = some (vp_cell _ _)
  rw [e, vp_cell_q, vp_cell_q, arrV_store, hcl]
  congr 2
  funext q
  by_cases hq : q = j
  · subst hq
    simp [updV, va_up, va_rf]
  · simp [updV, va_up, hq]
theorem g_alenI {q a N : Nat} {w : Bool} {f : Nat → Int32} (C : hC Γ l k own nm cc nL ret rm A) (d : decode cc pc = .ok (.arraylength, 1)) (hM : M a = some (w, aI Γ N f)) (hq : pc + 1 = q) (kk : hG Γ k A Q M n z q L (.int (nI N) :: st)) : hG Γ k A Q M n z pc L (.ref a :: st) := by
  subst hq
  intro H locs ls h1 h2 h3 h4
  exact va_alen (D := Γ.1) (cl := vwCl) C.ex C.cd C.hk (h1.one hM) 0 0 rfl rfl rfl d (kk H locs ls h1 h2 h3 h4)
theorem g_alenH {q a N : Nat} {w : Bool} {f : Nat → Option Nat} (C : hC Γ l k own nm cc nL ret rm A) (d : decode cc pc = .ok (.arraylength, 1)) (hM : M a = some (w, aH Γ N f)) (hq : pc + 1 = q) (kk : hG Γ k A Q M n z q L (.int (nI N) :: st)) : hG Γ k A Q M n z pc L (.ref a :: st) := by
  subst hq
  intro H locs ls h1 h2 h3 h4
  exact va_alen (D := Γ.1) (cl := vwCl) C.ex C.cd C.hk (h1.one hM) 0 2 rfl rfl rfl d (kk H locs ls h1 h2 h3 h4)
theorem g_alenO {q a N : Nat} {w : Bool} {f : Nat → Option Nat} (C : hC Γ l k own nm cc nL ret rm A) (d : decode cc pc = .ok (.arraylength, 1)) (hM : M a = some (w, aO Γ N f)) (hq : pc + 1 = q) (kk : hG Γ k A Q M n z q L (.int (nI N) :: st)) : hG Γ k A Q M n z pc L (.ref a :: st) := by
  subst hq
  intro H locs ls h1 h2 h3 h4
  exact va_alen (D := Γ.1) (cl := vwCl) C.ex C.cd C.hk (h1.one hM) 0 3 rfl rfl rfl d (kk H locs ls h1 h2 h3 h4)
theorem g_newI {q N : Nat} {i : Int32} (C : hC Γ l k own nm cc nL ret rm A) (hw : Cond.arrayClass FieldType.int ∈ hTbl) (hi : i = nI N) (hN : N < 1000000) (hcells : n + 1 ≤ rm.cells) (hslots : z + N ≤ rm.slots) (d : decode cc pc = .ok (.newarray .int, 2)) (hq : pc + 2 = q) (kk : ∀ b : Nat, M b = none → hG Γ k A Q (hU M b (aI Γ N (fun _ => 0))) (n + 1) (z + N) q L (.ref b :: st)) : hG Γ k A Q M n z pc L (.int i :: st) := by
  subst hq
  intro H locs ls h1 h2 h3 h4
  refine va_newaK (atype := .int) C.ex C.cd (C.ts _ hw) rfl d rfl (N := N) (by rw [hi]; exact nI_pos (by omega)) (by rw [hi]; exact nI_clamp (by omega)) (by show N * 4 ≤ _; omega) (by rw [C.ro]; exact hcells) (by rw [C.ro]; exact hslots) rfl fun H1 cA e1 z1 o1 hAr hNm => ?_
  have hcA : cA = Γ.2.1 0 := Option.some.inj (hNm.symm.trans (va_nm_int (C.hk.2 0 _ rfl).2))
  subst hcA
  refine kk H.size (h1.fresh (Nat.le_refl _)) H1 locs ls (fun b x hx => ?_) (h2.put (C.ha _ h3.1)) ⟨Nat.le_trans h3.1 (by omega), fun x g1 g2 => (o1 x (Nat.lt_of_lt_of_le g1 h3.1)).trans (h3.2.1 x g1 g2), h3.2.2⟩ h4
  by_cases hb : b = H.size
  · subst hb
    rw [hU_s] at hx
    cases hx
    exact e1
  · rw [hU_n hb] at hx
    exact (h1 b x hx).kept (o1 b (h1.lt hx))
theorem g_newJ {q N : Nat} {i : Int32} (C : hC Γ l k own nm cc nL ret rm A) (hw : Cond.arrayClass FieldType.long ∈ hTbl) (hi : i = nI N) (hN : N < 1000000) (hcells : n + 1 ≤ rm.cells) (hslots : z + N ≤ rm.slots) (d : decode cc pc = .ok (.newarray .long, 2)) (hq : pc + 2 = q) (kk : ∀ b : Nat, M b = none → hG Γ k A Q (hU M b (aJ Γ N (fun _ => 0))) (n + 1) (z + N) q L (.ref b :: st)) : hG Γ k A Q M n z pc L (.int i :: st) := by
  subst hq
  intro H locs ls h1 h2 h3 h4
  refine va_newaK (atype := .long) C.ex C.cd (C.ts _ hw) rfl d rfl (N := N) (by rw [hi]; exact nI_pos (by omega)) (by rw [hi]; exact nI_clamp (by omega)) (by show N * 8 ≤ _; omega) (by rw [C.ro]; exact hcells) (by rw [C.ro]; exact hslots) rfl fun H1 cA e1 z1 o1 hAr hNm => ?_
  have hcA : cA = Γ.2.1 1 := Option.some.inj (hNm.symm.trans (va_nm_long (C.hk.2 1 _ rfl).2))
  subst hcA
  refine kk H.size (h1.fresh (Nat.le_refl _)) H1 locs ls (fun b x hx => ?_) (h2.put (C.ha _ h3.1)) ⟨Nat.le_trans h3.1 (by omega), fun x g1 g2 => (o1 x (Nat.lt_of_lt_of_le g1 h3.1)).trans (h3.2.1 x g1 g2), h3.2.2⟩ h4
  by_cases hb : b = H.size
  · subst hb
    rw [hU_s] at hx
    cases hx
    exact e1
  · rw [hU_n hb] at hx
    exact (h1 b x hx).kept (o1 b (h1.lt hx))
theorem g_newH {q N index : Nat} {i : Int32} (C : hC Γ l k own nm cc nL ret rm A) (hclink : Cond.classLink own index "HerbLoft$Hook" ∈ hTbl) (hi : i = nI N) (hN : N < 1000000) (hcells : n + 1 ≤ rm.cells) (hslots : z + N ≤ rm.slots) (d : decode cc pc = .ok (.anewarray index, 3)) (hq : pc + 3 = q) (kk : ∀ b : Nat, M b = none → hG Γ k A Q (hU M b (aH Γ N (fun _ => none))) (n + 1) (z + N) q L (.ref b :: st)) : hG Γ k A Q M n z pc L (.int i :: st) := by
  subst hq
  intro H locs ls h1 h2 h3 h4
  have hcl : i.toNatClampNeg = N := by rw [hi]; exact nI_clamp (by omega)
  refine W.anew C.ex C.cd C.ow (C.ts _ hclink) (va_AO.use C.hx.2.2.2.2.2.1) rfl d rfl (by rw [hi]; exact nI_pos (by omega)) (by rw [hcl]; show N * 4 ≤ _; omega) (by rw [C.ro]; exact hcells) (by rw [C.ro, hcl]; exact hslots) fun cA kA9 comp f1 f2 f3 f4 => ?_
  have hcA : cA = Γ.2.1 2 := Option.some.inj (f1.symm.trans (va_nmO (C.hk.2 2 _ rfl).2 rfl))
  subst hcA
  rw [hcl]
  generalize hH1 : H.push ({ cls := Γ.2.1 2, slots := Array.replicate N .null, vm := .none } : Cell) = H1
  have z1 : H1.size = H.size + 1 := by rw [← hH1, Array.size_push]
  have e1 : H1[H.size]? = some (arrV (Γ.2.1 2) N (fun _ => .null)) := by rw [← hH1, Array.getElem?_push_size, ← arrV_new]
  have o1 : ∀ q : Nat, q < H.size → H1[q]? = H[q]? := fun q hq => by rw [← hH1, Array.getElem?_push, if_neg (Nat.ne_of_lt hq)]
  refine kk H.size (h1.fresh (Nat.le_refl _)) H1 locs ls (fun b x hx => ?_) (h2.put (C.ha _ h3.1)) ⟨Nat.le_trans h3.1 (by omega), fun x g1 g2 => (o1 x (Nat.lt_of_lt_of_le g1 h3.1)).trans (h3.2.1 x g1 g2), h3.2.2⟩ h4
  by_cases hb : b = H.size
  · subst hb
    rw [hU_s] at hx
    cases hx
    show H1[H.size]? = some (vp_cell _ _)
    rw [vp_cell_q]
    exact e1
  · rw [hU_n hb] at hx
    exact (h1 b x hx).kept (o1 b (h1.lt hx))
theorem g_newO {q N index : Nat} {i : Int32} (C : hC Γ l k own nm cc nL ret rm A) (hclink : Cond.classLink own index "java/lang/Object" ∈ hTbl) (hi : i = nI N) (hN : N < 1000000) (hcells : n + 1 ≤ rm.cells) (hslots : z + N ≤ rm.slots) (d : decode cc pc = .ok (.anewarray index, 3)) (hq : pc + 3 = q) (kk : ∀ b : Nat, M b = none → hG Γ k A Q (hU M b (aO Γ N (fun _ => none))) (n + 1) (z + N) q L (.ref b :: st)) : hG Γ k A Q M n z pc L (.int i :: st) := by
  subst hq
  intro H locs ls h1 h2 h3 h4
  have hcl : i.toNatClampNeg = N := by rw [hi]; exact nI_clamp (by omega)
  refine W.anew C.ex C.cd C.ow (C.ts _ hclink) (va_AO.use C.hx.2.2.2.2.2.2) rfl d rfl (by rw [hi]; exact nI_pos (by omega)) (by rw [hcl]; show N * 4 ≤ _; omega) (by rw [C.ro]; exact hcells) (by rw [C.ro, hcl]; exact hslots) fun cA kA9 comp f1 f2 f3 f4 => ?_
  have hcA : cA = Γ.2.1 3 := Option.some.inj (f1.symm.trans (va_nmO (C.hk.2 3 _ rfl).2 rfl))
  subst hcA
  rw [hcl]
  generalize hH1 : H.push ({ cls := Γ.2.1 3, slots := Array.replicate N .null, vm := .none } : Cell) = H1
  have z1 : H1.size = H.size + 1 := by rw [← hH1, Array.size_push]
  have e1 : H1[H.size]? = some (arrV (Γ.2.1 3) N (fun _ => .null)) := by rw [← hH1, Array.getElem?_push_size, ← arrV_new]
  have o1 : ∀ q : Nat, q < H.size → H1[q]? = H[q]? := fun q hq => by rw [← hH1, Array.getElem?_push, if_neg (Nat.ne_of_lt hq)]
  refine kk H.size (h1.fresh (Nat.le_refl _)) H1 locs ls (fun b x hx => ?_) (h2.put (C.ha _ h3.1)) ⟨Nat.le_trans h3.1 (by omega), fun x g1 g2 => (o1 x (Nat.lt_of_lt_of_le g1 h3.1)).trans (h3.2.1 x g1 g2), h3.2.2⟩ h4
  by_cases hb : b = H.size
  · subst hb
    rw [hU_s] at hx
    cases hx
    show H1[H.size]? = some (vp_cell _ _)
    rw [vp_cell_q]
    exact e1
  · rw [hU_n hb] at hx
    exact (h1 b x hx).kept (o1 b (h1.lt hx))
/-- a cast that holds: the object is of the class itself -/
theorem g_cast {q a index ci : Nat} {w : Bool} {fs : List Value} {r : vw_C} (C : hC Γ l k own nm cc nL ret rm A) (hlink : Cond.classLink own index r.1 ∈ hTbl) (hc : vwCl[ci]? = some r) (hM : M a = some (w, .inr (ci, fs))) (d : decode cc pc = .ok (.checkcast index, 3)) (hq : pc + 3 = q) (kk : hG Γ k A Q M n z q L (.ref a :: st)) : hG Γ k A Q M n z pc L (.ref a :: st) := by
  subst hq
  intro H locs ls h1 h2 h3 h4
  exact va_castS C.ex C.cd C.ow (C.ts _ hlink) (C.hk.1 ci _ hc).2 (va_recv (D := Γ.1) (cl := vwCl) C.hk (h1.one hM) hc (q0 := 0) rfl) d (kk H locs ls h1 h2 h3 h4)
/-- int arrays copied -/
theorem g_copyi {q index a0 a n0 n1 : Nat} {w : Bool} {f g : Nat → Int32} {sp dp m : Int32} (C : hC Γ l k own nm cc nL ret rm A) (hlink : Cond.methodLink own index arraycopyName ∈ hTbl) (hw : Cond.native arraycopyName ∈ hTbl ∧ Cond.static arraycopyName ∈ hTbl ∧ Cond.initialized "java/lang/System" ∈ hTbl) (hsz : L.length = nL) (s9 d9 m9 : Nat) (e1 : sp = nI s9) (e2 : dp = nI d9) (e3 : m = nI m9) (l1 : s9 + m9 ≤ n0) (l2 : d9 + m9 ≤ n1) (b1 : n0 < 2 ^ 31) (b2 : n1 < 2 ^ 31) (hM0 : M a0 = some (w, aI Γ n0 f)) (hM1 : M a = some (true, aI Γ n1 g)) (hf : 1 ≤ rm.frames) (hlo : (st.map fun v => v.category).sum + (nativeFrameWords "java/lang/System" "arraycopy" 5 + 11) ≤ rm.locals) (d : decode cc pc = .ok (.invokestatic index, 3)) (hq : pc + 3 = q) (kk : hG Γ k A Q (hU M a (aI Γ n1 (va_cpy f g s9 d9 m9))) n z q L st) : hG Γ k A Q M n z pc L (.int m :: .int dp :: .ref a :: .int sp :: .ref a0 :: st) := by
  subst hq
  have c1 : sp.toNatClampNeg = s9 := by rw [e1]; exact nI_clamp (by omega)
  have c2 : dp.toNatClampNeg = d9 := by rw [e2]; exact nI_clamp (by omega)
  have c3 : m.toNatClampNeg = m9 := by rw [e3]; exact nI_clamp (by omega)
  have p1 : sp.toInt = (s9 : Int) := by rw [e1]; exact nI_toInt (by omega)
  have p2 : dp.toInt = (d9 : Int) := by rw [e2]; exact nI_toInt (by omega)
  have p3 : m.toInt = (m9 : Int) := by rw [e3]; exact nI_toInt (by omega)
  have t1 : ¬ sp < 0 := by rw [e1]; exact nI_pos (by omega)
  have t2 : ¬ dp < 0 := by rw [e2]; exact nI_pos (by omega)
  have t3 : ¬ m < 0 := by rw [e3]; exact nI_pos (by omega)
  intro H locs ls h1 h2 h3 h4 T hT X
  have hc0 : H[a0]? = some (vp_cell (Γ.2.1 0) (n0, .inl f)) := h1 a0 _ hM0
  have hc1 : H[a]? = some (vp_cell (Γ.2.1 0) (n1, .inl g)) := h1 a _ hM1
  obtain ⟨-, k0, hk0, cm0, hkk0⟩ := (C.hk.2 0 _ rfl).1 n0 (fun j => .int (f j))
  obtain ⟨-, k1, hk1, cm1, hkk1⟩ := (C.hk.2 0 _ rfl).1 n1 (fun j => .int (g j))
  obtain ⟨vm', X', step⟩ := X.arraycopy C.ex C.ow (C.ts _ hlink) (C.ts _ hw.1) (C.ts _ hw.2.1) (C.ts _ hw.2.2) (src := a0) (dst := a) (cs := vp_cell (Γ.2.1 0) (n0, .inl f)) (cd := vp_cell (Γ.2.1 0) (n1, .inl g)) (srcPos := sp) (destPos := dp) (n := m) (by rw [hT]; exact hc0) (by rw [hT]; exact hc1)
    (fun _ h => by cases h) (fun _ h => by cases h) (fun h => by cases h) (fun h => by cases h) hk0 hk1 hkk0 hkk1 (by simp [refKind]) t1 t2 t3
    (by rw [p1, p3]; show ¬ _ > ((arrV (Γ.2.1 0) n0 (fun j => .int (f j))).slots.size : Int); rw [arrV_size]; omega)
    (by rw [p2, p3]; show ¬ _ > ((arrV (Γ.2.1 0) n1 (fun j => .int (g j))).slots.size : Int); rw [arrV_size]; omega)
    (fun vm₁ _ i hi => by
      have e : (vp_cell (Γ.2.1 0) (n0, .inl f)).slots.getD (sp.toNatClampNeg + i) .null = .int (f (sp.toNatClampNeg + i)) := by
        show (arrV (Γ.2.1 0) n0 (fun j => .int (f j))).slots.getD _ _ = _
        rw [Array.getD_eq_getD_getElem?, arrV_read _ _ (by omega)]
        rfl
      refine ⟨?_, ?_⟩
      · rw [e]
        rfl
      · rw [e]
        exact trivial)
    (g := F0 (kM k) pc ls (.int m :: .int dp :: .ref a :: .int sp :: .ref a0 :: st)) rfl (by rw [C.ml, ← hsz]; exact h4.1) (rest := st) rfl (by rw [C.cd]; exact d) (by rw [C.ro]; exact hf) (by rw [C.ro]; show 2 * 0 + _ + _ ≤ _; omega)
  have ec : copied (vp_cell (Γ.2.1 0) (n0, .inl f)) (vp_cell (Γ.2.1 0) (n1, .inl g)) sp dp m = vp_cell (Γ.2.1 0) (n1, .inl (va_cpy f g s9 d9 m9)) := by
    rw [← c1, ← c2, ← c3]
    exact va_copied (fun z => .int z) (Γ.2.1 0) (Γ.2.1 0) f g (by rw [c1, c3]; exact l1)
  rw [ec] at X' step
  have hl : a < H.size := (Array.getElem?_eq_some_iff.mp hc1).1
  have oq : ∀ q : Nat, q ≠ a → (H.setIfInBounds a (vp_cell (Γ.2.1 0) (n1, .inl (va_cpy f g s9 d9 m9))))[q]? = H[q]? := fun q hq => by simp [Array.getElem?_setIfInBounds, Ne.symm hq]
  have hAa : A a := h2 a _ hM1
  obtain ⟨t, a1, b9⟩ := kk (H.setIfInBounds a (vp_cell (Γ.2.1 0) (n1, .inl (va_cpy f g s9 d9 m9)))) _ ls (h1.put (show (H.setIfInBounds a _)[a]? = some _ by simp [Array.getElem?_setIfInBounds, hl]) oq) (h2.put hAa) ⟨by simp; exact h3.1, fun q g1 g2 => by
      rw [oq q (fun e => g2 (by rw [e]; exact hAa))]
      exact h3.2.1 q g1 g2, fun q hq => by
      rcases List.mem_append.mp hq with h | h
      · exact h3.2.2 q h
      · obtain ⟨z, -, hz⟩ := List.mem_map.mp h
        rw [← hz]
        exact hAa⟩ h4 _ (by rw [← hT]; rfl) X'
  exact ⟨t, step t a1, b9⟩
end hRows2
end
section
/-! ===== contracts over map worlds ===== -/
def hBx (Γ : hGam) (M : hM) (sz : Nat) : State → Prop := fun U => U.heap.size = sz ∧ hP Γ M U.heap ∧ hK Γ U ∧ hX Γ (hA M sz) U U.heap
def hQ (Γ : hGam) (M : hM) (sz : Nat) (post : Option Value → hM → Prop) : Array Value → State → Outcome → State → Prop := fun _ st oc t => (∃ (r : Option Value) (M1 : hM), oc = .returned r ∧ post r M1 ∧ hP Γ M1 t.heap ∧ hWr (hA M sz) M1) ∧ va_F (hA M sz) st t
/-- a throw changes nothing of the world -/
def hXC (Γ : hGam) (M : hM) (sz : Nat) (px : String → Prop) : String → State → State → Prop := fun E st t => px E ∧ hP Γ M t.heap ∧ va_F (hA M sz) st t
def hMet (Γ : hGam) (l : Launch) (y : MethodName) (cc : ByteArray) (maxL : Nat) (ret : Option FieldType) (rm : Room) (as : List Value) (M : hM) (post : Option Value → hM → Prop) : Prop :=
  ∀ sz : Nat, Met l y (.code y cc maxL ret :: hTbl) rm (va_Pc as (hBx Γ M sz)) (hQ Γ M sz post) rm.cells rm.slots (hA M sz)
def hMetX (Γ : hGam) (l : Launch) (y : MethodName) (cc : ByteArray) (maxL : Nat) (ret : Option FieldType) (rm : Room) (as : List Value) (M : hM) (post : Option Value → hM → Prop) (px : String → Prop) : Prop :=
  ∀ sz : Nat, vx_Met l y (.code y cc maxL ret :: hTbl) rm (va_Pc as (hBx Γ M sz)) (hQ Γ M sz post) (hXC Γ M sz px) rm.cells rm.slots (hA M sz)
theorem hBx_blind {Γ : hGam} {as : List Value} {M : hM} {sz : Nat} : FrameBlind (va_Pc as (hBx Γ M sz)) := fun a U g mk q => ⟨q.1, q.2.1, q.2.2.1, va_K.moved (u := U) (U := U.calling g mk a) (Vm.Alike.refl U.vm) q.2.2.2.1, hX.warm (s := U) (U := U.calling g mk a) (State.WarmedH.refl U) q.2.2.2.2⟩
/-! the kinds of answers -/
def hpI (pi : Int32 → hM → Prop) : Option Value → hM → Prop := fun r M1 => ∃ x : Int32, r = some (.int x) ∧ pi x M1
def hpL (pi : Int64 → hM → Prop) : Option Value → hM → Prop := fun r M1 => ∃ x : Int64, r = some (.long x) ∧ pi x M1
def hpV (pv : hM → Prop) : Option Value → hM → Prop := fun r M1 => r = none ∧ pv M1
def hpQ (pq : Option Nat → hM → Prop) : Option Value → hM → Prop := fun r M1 => ∃ o : Option Nat, r = some (va_rf o) ∧ pq o M1
/-- reads only: the answer is e -/
abbrev hpP (M : hM) (e : Int32) : Option Value → hM → Prop := hpI (fun x M1 => x = e ∧ M1 = M)
abbrev hpO (M : hM) (o : Option Nat) : Option Value → hM → Prop := hpQ (fun x M1 => x = o ∧ M1 = M)
abbrev hEnd (Γ : hGam) (k : hCtx) (M0 : hM) (post : Option Value → hM → Prop) (mc ms : Nat) : State → Prop := MQ (kB k) (hQ Γ M0 (kS k).heap.size post) (kA k) (kS k) mc ms (hA M0 (kS k).heap.size)
abbrev hEndX (Γ : hGam) (k : hCtx) (M0 : hM) (post : Option Value → hM → Prop) (px : String → Prop) (mc ms : Nat) : State → Prop := vx_MQ (kB k) (hQ Γ M0 (kS k).heap.size post) (hXC Γ M0 (kS k).heap.size px) (kA k) (kS k) mc ms (hA M0 (kS k).heap.size)
theorem h_args : ∀ (as : List Value) (n i0 : Nat), (∀ v ∈ as, v.category = 1) → ∀ (j : Nat) (v : Value), (as.map some ++ List.replicate n none)[j]? = some (some v) → (i0 + j, v) ∈ lv_args i0 as
  | [], n, i0, _, j, v, h => by
    have h1 := List.mem_of_getElem? h
    simp at h1
  | a :: as, n, i0, hc, j, v, h => by
    have ha : a.category = 1 := hc a List.mem_cons_self
    cases j with
    | zero =>
      simp at h
      subst h
      exact List.mem_cons_self
    | succ j =>
      have h2 := h_args as n (i0 + 1) (fun w hw => hc w (List.mem_cons_of_mem _ hw)) j v (by simpa using h)
      refine List.mem_cons_of_mem _ ?_
      rw [if_neg (by omega), show i0 + (j + 1) = i0 + 1 + j by omega]
      exact h2
theorem h_sl : ∀ (as : List Value), (∀ v ∈ as, v.category = 1) → (lg_sl as).length = as.length
  | [], _ => rfl
  | a :: as, hc => by
    have ha : a.category = 1 := hc a List.mem_cons_self
    have h2 := h_sl as (fun w hw => hc w (List.mem_cons_of_mem _ hw))
    show ((if a.category = 2 then [Slot.val a, Slot.second] else [Slot.val a]) ++ lg_sl as).length = _
    rw [if_neg (by omega), List.length_append, h2]
    simp
    omega
theorem h_entry {as : List Value} {n : Nat} (hlen : as.length ≤ n) (hc : ∀ v ∈ as, v.category = 1) : hLoc ((lg_sl as ++ List.replicate (n - (lg_sl as).length) Slot.unset).toArray) (as.map some ++ List.replicate (n - as.length) none) := by
  have h := lv_entry as (n := n) (by rw [h_sl as hc]; exact hlen)
  refine ⟨h.1.trans (by simp; omega), h.2.1, fun i v hv => ?_⟩
  have := h_args as _ 0 hc i v hv
  rw [Nat.zero_add] at this
  exact h.2.2 (i, v) this
def hCat (as : List Value) : Prop := ∀ v ∈ as, v.category = 1
theorem hCat_nil : hCat [] := fun v h => nomatch h
theorem hCat_cons {v : Value} {as : List Value} (hv : v.category = 1) (h : hCat as) : hCat (v :: as) := fun w hw => (List.mem_cons.mp hw).elim (fun e => by rw [e]; exact hv) (h w)
theorem hMet_of {Γ : hGam} {l : Launch} {own nm desc : String} {cc : ByteArray} {maxL : Nat} {ret : Option FieldType} {rm : Room} {as : List Value} {M : hM} {post : Option Value → hM → Prop} (hy : plainName own = true) (hlen : as.length ≤ maxL) (hc : hCat as)
    (body : ∀ k : hCtx, hC Γ l k own nm cc maxL ret rm (hA M (kS k).heap.size) → hG Γ k (hA M (kS k).heap.size) (hEnd Γ k M post rm.cells rm.slots) M 0 0 0 (as.map some ++ List.replicate (maxL - as.length) none) []) : hMet Γ l ⟨own, nm, desc⟩ cc maxL ret rm as M post := by
  intro sz
  refine Met.ofW (cc := cc) (maxL := maxL) (ret := ret) hy rfl ?_
  intro p e s m args below meth c s₁ B hml hv
  obtain ⟨rfl, rfl, hP1, hK1, hX1⟩ := hv
  have hts := atoms_spec B.pre
  have K := body (p, l, e, rm, s, m, as.toArray, below, meth, c) ⟨B.exec, B.bytes, hml, findClass_of_methodNamed B.named, fun w hw => hts w (List.mem_cons_of_mem _ hw), hK1, hX1, fun q h => Or.inr h, B.notSynchronized, rfl, rfl, (name_of_methodNamed B.named B.method).1, B.returns⟩
  rw [lg_entry_eq]
  exact K s.heap [] _ hP1 (fun a x h => Or.inl ⟨x, h⟩) va_S.rf (h_entry hlen hc)
theorem hMetX_of {Γ : hGam} {l : Launch} {own nm desc : String} {cc : ByteArray} {maxL : Nat} {ret : Option FieldType} {rm : Room} {as : List Value} {M : hM} {post : Option Value → hM → Prop} {px : String → Prop} (hy : plainName own = true) (hlen : as.length ≤ maxL) (hc : hCat as)
    (body : ∀ k : hCtx, hC Γ l k own nm cc maxL ret rm (hA M (kS k).heap.size) → (∀ x ∈ (kC k).exceptionTable.toList, False) → hG Γ k (hA M (kS k).heap.size) (hEndX Γ k M post px rm.cells rm.slots) M 0 0 0 (as.map some ++ List.replicate (maxL - as.length) none) []) : hMetX Γ l ⟨own, nm, desc⟩ cc maxL ret rm as M post px := by
  intro sz
  refine vx_ofW (cc := cc) (maxL := maxL) (ret := ret) hy rfl ?_
  intro p e s m args below meth c s₁ B hml hno hv
  obtain ⟨rfl, rfl, hP1, hK1, hX1⟩ := hv
  have hts := atoms_spec B.pre
  have K := body (p, l, e, rm, s, m, as.toArray, below, meth, c) ⟨B.exec, B.bytes, hml, findClass_of_methodNamed B.named, fun w hw => hts w (List.mem_cons_of_mem _ hw), hK1, hX1, fun q h => Or.inr h, B.notSynchronized, rfl, rfl, (name_of_methodNamed B.named B.method).1, B.returns⟩ hno
  rw [lg_entry_eq]
  exact K s.heap [] _ hP1 (fun a x h => Or.inl ⟨x, h⟩) va_S.rf (h_entry hlen hc)
section hRows3
variable {Γ : hGam} {l : Launch} {k : hCtx} {own nm : String} {cc : ByteArray} {nL : Nat} {ret : Option FieldType} {rm : Room} {A : Nat → Prop} {Q : State → Prop} {M M0 : hM} {n z pc mc ms : Nat} {L : List (Option Value)} {st : List Value} {px : String → Prop}
/-- a method that may throw, on a path where it returns -/
theorem g_x {post : Option Value → hM → Prop} (kk : hG Γ k A (hEnd Γ k M0 post mc ms) M n z pc L st) : hG Γ k A (hEndX Γ k M0 post px mc ms) M n z pc L st :=
  fun H locs ls h1 h2 h3 h4 => vx_ret (kk H locs ls h1 h2 h3 h4)
theorem hNarB (b : Bool) : narrow .boolean (.int (bI b)) = .int (bI b) := by cases b <;> rfl
theorem g_iret {x : Int32} {pi : Int32 → hM → Prop} (C : hC Γ l k own nm cc nL (some .int) rm (hA M0 (kS k).heap.size)) (d : decode cc pc = .ok (.ireturn, 1)) (hp : pi x M) (hn : n ≤ mc) (hz : z ≤ ms) : hG Γ k (hA M0 (kS k).heap.size) (hEnd Γ k M0 (hpI pi) mc ms) M n z pc L ([.int x]) := by
  intro H locs ls h1 h2 h3 h4
  refine W.widen hn hz ?_
  exact W.iret C.ex C.cd C.re (fun t ht hW => ⟨⟨_, M, rfl, ⟨_, rfl, hp⟩, by rw [ht]; exact h1, h2⟩, h3.F ht⟩) h3.2.2 d C.lk
theorem g_zret {x : Int32} {pi : Int32 → hM → Prop} (C : hC Γ l k own nm cc nL (some .boolean) rm (hA M0 (kS k).heap.size)) (d : decode cc pc = .ok (.ireturn, 1)) (hx : narrow .boolean (.int x) = .int x) (hp : pi x M) (hn : n ≤ mc) (hz : z ≤ ms) : hG Γ k (hA M0 (kS k).heap.size) (hEnd Γ k M0 (hpI pi) mc ms) M n z pc L ([.int x]) := by
  intro H locs ls h1 h2 h3 h4
  refine W.widen hn hz ?_
  exact W.zret C.ex C.cd C.re hx (fun t ht hW => ⟨⟨_, M, rfl, ⟨_, rfl, hp⟩, by rw [ht]; exact h1, h2⟩, h3.F ht⟩) h3.2.2 d C.lk
theorem g_lret {x : Int64} {pi : Int64 → hM → Prop} (C : hC Γ l k own nm cc nL (some .long) rm (hA M0 (kS k).heap.size)) (d : decode cc pc = .ok (.lreturn, 1)) (hp : pi x M) (hn : n ≤ mc) (hz : z ≤ ms) : hG Γ k (hA M0 (kS k).heap.size) (hEnd Γ k M0 (hpL pi) mc ms) M n z pc L ([.long x]) := by
  intro H locs ls h1 h2 h3 h4
  refine W.widen hn hz ?_
  exact W.lret C.ex C.cd C.re (fun t ht hW => ⟨⟨_, M, rfl, ⟨_, rfl, hp⟩, by rw [ht]; exact h1, h2⟩, h3.F ht⟩) h3.2.2 d C.lk
theorem g_vret {pv : hM → Prop} (C : hC Γ l k own nm cc nL none rm (hA M0 (kS k).heap.size)) (d : decode cc pc = .ok (.return_, 1)) (hp : pv M) (hn : n ≤ mc) (hz : z ≤ ms) : hG Γ k (hA M0 (kS k).heap.size) (hEnd Γ k M0 (hpV pv) mc ms) M n z pc L ([]) := by
  intro H locs ls h1 h2 h3 h4
  refine W.widen hn hz ?_
  exact W.vret C.ex C.cd C.re (fun t ht hW => ⟨⟨_, M, rfl, ⟨rfl, hp⟩, by rw [ht]; exact h1, h2⟩, h3.F ht⟩) h3.2.2 d C.lk
theorem g_aret {rt : FieldType} {v : Value} {o : Option Nat} {pq : Option Nat → hM → Prop} (C : hC Γ l k own nm cc nL (some rt) rm (hA M0 (kS k).heap.size)) (d : decode cc pc = .ok (.areturn, 1)) (hrt : (∃ n, rt = .object n) ∨ ∃ t, rt = .array t) (hv : v = va_rf o) (hp : pq o M) (hn : n ≤ mc) (hz : z ≤ ms) : hG Γ k (hA M0 (kS k).heap.size) (hEnd Γ k M0 (hpQ pq) mc ms) M n z pc L ([v]) := by
  subst hv
  intro H locs ls h1 h2 h3 h4
  refine W.widen hn hz ?_
  exact W.aret C.ex C.cd C.re hrt (va_rf_or o) (fun t ht hW => ⟨⟨_, M, rfl, ⟨_, rfl, hp⟩, by rw [ht]; exact h1, h2⟩, h3.F ht⟩) h3.2.2 d C.lk
/-! calls -/
def hYF (y : MethodName) (bytes : ByteArray) (maxL : Nat) (rt : Option FieldType) (na : Nat) : Prop :=
  Cond.code y bytes maxL rt ∈ hTbl ∧ Cond.initialized y.cls ∈ hTbl ∧ (y.cls ≠ "java/lang/invoke/MethodHandle" ∧ y.cls ≠ "java/lang/invoke/VarHandle") ∧ (parseMethodDescriptor y.desc).map (fun d => d.parameters.length) = some na
def hYV (y : MethodName) (bytes : ByteArray) (maxL : Nat) (rt : Option FieldType) (na : Nat) : Prop := hYF y bytes maxL rt na ∧ Cond.instanceMethod y ∈ hTbl ∧ Cond.selects y.cls y y ∈ hTbl
def hYS (y : MethodName) (bytes : ByteArray) (maxL : Nat) (rt : Option FieldType) (na : Nat) : Prop := hYF y bytes maxL rt na ∧ Cond.static y ∈ hTbl
def hYI (y : MethodName) (bytes : ByteArray) (maxL : Nat) (na : Nat) : Prop := hYF y bytes maxL none na ∧ Cond.instanceMethod y ∈ hTbl ∧ y.name = "<init>"
section Cl
variable {y : MethodName} {bytes : ByteArray} {maxL na index : Nat} {rt : Option FieldType} {rm' : Room} {post : Option Value → hM → Prop}
theorem hYF.good (Y : hYF y bytes maxL rt na) : GoodIn (.code y bytes maxL rt :: hTbl) (.code y bytes maxL rt :: hTbl) := fun w hw => ⟨hw, by
  rcases List.mem_cons.mp hw with rfl | hw
  · exact good_of_word (hTbl_good _ Y.1)
  · exact good_of_word (hTbl_good w hw)⟩
theorem hYF.ts (C : hC Γ l k own nm cc nL ret rm A) (Y : hYF y bytes maxL rt na) : ∀ w ∈ (Cond.code y bytes maxL rt :: hTbl), w.before (kA k) (kS k) = true := fun w hw => by
  rcases List.mem_cons.mp hw with rfl | hw
  · exact C.ts _ Y.1
  · exact C.ts _ hw
theorem hYF.cb (C : hC Γ l k own nm cc nL ret rm A) (Y : hYF y bytes maxL rt na) (hl : Cond.methodLink own index y ∈ hTbl) (hR : rm'.frames + 1 ≤ rm.frames ∧ 8 + (maxL + 11) + rm'.locals ≤ rm.locals) : CallB (kR k) (kS k) (kA k) own index y bytes maxL rt (.code y bytes maxL rt :: hTbl) rm' rm'.cells rm'.slots na :=
  callB_of na (hYF.ts C Y) Y.good rfl rfl rfl (C.ts _ Y.2.1) (C.ts _ hl) ⟨Y.2.2.1.1, Y.2.2.1.2, Y.2.2.2⟩ (by rw [C.ro]; exact hR)
theorem hBx_at {H : Heap} {locs : List Loc} (C : hC Γ l k own nm cc nL ret rm A) (h1 : hP Γ M H) (h2 : hWr A M) (h3 : va_S A (kS k).heap H locs) : ∀ U : State, U.heap = H → (kS k).WarmedH U.vm → hBx Γ M H.size U := fun U hU hW => by
  have hsub : ∀ q, hA M H.size q → A q := fun q h => by
    rcases h with ⟨x, h⟩ | h
    · exact h2 q x h
    · exact C.ha q (Nat.le_trans h3.1 h)
  refine ⟨by rw [hU], by rw [hU]; exact h1, va_K.moved hW.alike C.hk, ?_⟩
  rw [hU]
  exact ((C.hx.kept h3.2.1).narrow hsub).warm hW
theorem h_after {H : Heap} {locs : List Loc} {ls : Array Slot} {stk : List Value} {a9 : Array Value} {mc9 ms9 : Nat} (C : hC Γ l k own nm cc nL ret rm A) (hr : va_Run (kP k) (kL k) (kE k) (kR k) (kS k) (kM k) (kA k) (kB k) (kT k) (kC k) H locs n z mc9 ms9 (F0 (kM k) pc ls stk) st (hQ Γ M H.size post a9) (hA M H.size)) (h2 : hWr A M) (h3 : va_S A (kS k).heap H locs) (h4 : hLoc ls L)
    (kk : ∀ (r : Option Value) (M1 : hM), post r M1 → hG Γ k A Q M1 (n + mc9) (z + ms9) (pc + 3) L (r.toList ++ st)) : W (kP k) (kL k) (kE k) (kR k) (kS k) (kM k) (kA k) (kB k) (kT k) (kC k) H locs n z Q (F0 (kM k) pc ls stk) := by
  intro T hT X
  obtain ⟨v, st₀, t, T', Lo, h0, X', hL, e1, e2, ⟨⟨r, M1, hv, hp, hP1, hW1⟩, hz, hkk⟩, step⟩ := hr T hT X
  cases hv
  rw [h0] at hz hkk
  have hsub : ∀ q, hA M H.size q → A q := fun q h => by
    rcases h with ⟨x, h⟩ | h
    · exact h2 q x h
    · exact C.ha q (Nat.le_trans h3.1 h)
  obtain ⟨t2, a1, b1⟩ := kk v M1 hp T'.heap (locs ++ Lo) ls (by rw [e1]; exact hP1) (fun a x h => hsub a (hW1 a x h))
    ⟨Nat.le_trans h3.1 (by rw [e1]; exact hz), fun q g1 g2 => by rw [e1, hkk q (Nat.lt_of_lt_of_le g1 h3.1) (fun zz => g2 (hsub q zz))]; exact h3.2.1 q g1 g2, fun q hq => by
      rcases List.mem_append.mp hq with h | h
      · exact h3.2.2 q h
      · exact hsub _ (hL q h)⟩ h4 T' rfl X'
  exact ⟨t2, step t2 a1, b1⟩
theorem h_sum {ls : Array Slot} {stk : List Value} (h : (st.map fun v => v.category).sum ≤ 8) : 2 * (F0 (kM k) pc ls stk).monitorRoom + (st.map fun v => v.category).sum ≤ 8 := by
  show 2 * 0 + _ ≤ 8
  omega
theorem gx_callV {q b ci N : Nat} {T : u_T} {w : Bool} {fs : List Value} {As stk : List Value} (C : hC Γ l k own nm cc nL ret rm A) (Y : hYV y bytes maxL rt As.length) (hm : hMet Γ l y bytes maxL rt rm' (.ref b :: As) M post) (hl : Cond.methodLink own index y ∈ hTbl) (hb : M b = some (w, .inr (ci, fs))) (hc : vwCl[ci]? = some (y.cls, T, N)) (hR : rm'.frames + 1 ≤ rm.frames ∧ 8 + (maxL + 11) + rm'.locals ≤ rm.locals) (hsum : (st.map fun v => v.category).sum ≤ 8) (hsz : L.length = nL) (hcs : n + rm'.cells ≤ rm.cells ∧ z + rm'.slots ≤ rm.slots) (d : decode cc pc = .ok (.invokevirtual index, 3)) (hstk : stk = As.reverse ++ .ref b :: st) (hq : pc + 3 = q)
    (kk : ∀ (r : Option Value) (M1 : hM), post r M1 → hG Γ k A Q M1 (n + rm'.cells) (z + rm'.slots) q L (r.toList ++ st)) : hG Γ k A Q M n z pc L stk := by
  subst hq
  intro H locs ls h1 h2 h3 h4
  rw [← C.la] at hm
  refine h_after C (va_runV (As := As) (rest := st) ⟨C.ex, C.cd, C.ml, C.ow, C.ts⟩ (hm H.size) ⟨hYF.cb C Y.1 hl hR, C.ts _ Y.2.1, C.ts _ Y.2.2⟩ ⟨hBx_blind, va_recv (D := Γ.1) (cl := vwCl) C.hk (h1.one hb) hc (q0 := 0) rfl, fun U hU hW => ⟨rfl, hBx_at C h1 h2 h3 U hU hW⟩⟩ rfl rfl (by rw [← hsz]; exact h4.1) hstk (h_sum hsum) d (by rw [C.ro]; exact hcs)) h2 h3 h4 kk
theorem gx_callS {q : Nat} {As stk : List Value} (C : hC Γ l k own nm cc nL ret rm A) (Y : hYS y bytes maxL rt As.length) (hm : hMet Γ l y bytes maxL rt rm' As M post) (hl : Cond.methodLink own index y ∈ hTbl) (hR : rm'.frames + 1 ≤ rm.frames ∧ 8 + (maxL + 11) + rm'.locals ≤ rm.locals) (hsum : (st.map fun v => v.category).sum ≤ 8) (hsz : L.length = nL) (hcs : n + rm'.cells ≤ rm.cells ∧ z + rm'.slots ≤ rm.slots) (d : decode cc pc = .ok (.invokestatic index, 3)) (hstk : stk = As.reverse ++ st) (hq : pc + 3 = q)
    (kk : ∀ (r : Option Value) (M1 : hM), post r M1 → hG Γ k A Q M1 (n + rm'.cells) (z + rm'.slots) q L (r.toList ++ st)) : hG Γ k A Q M n z pc L stk := by
  subst hq
  intro H locs ls h1 h2 h3 h4
  rw [← C.la] at hm
  refine h_after C (va_runS (As := As) (rest := st) ⟨C.ex, C.cd, C.ml, C.ow, C.ts⟩ (hm H.size) ⟨hYF.cb C Y.1 hl hR, C.ts _ Y.2⟩ ⟨hBx_blind, fun U hU hW => ⟨rfl, hBx_at C h1 h2 h3 U hU hW⟩⟩ rfl rfl (by rw [← hsz]; exact h4.1) hstk (h_sum hsum) d (by rw [C.ro]; exact hcs)) h2 h3 h4 kk
theorem gx_callSN {q : Nat} {host : String} {As stk : List Value} (C : hC Γ l k own nm cc nL ret rm A) (Y : hYS y bytes maxL rt As.length) (hm : hMet Γ l y bytes maxL rt rm' As M post) (hl : Cond.methodLinkNest own index y host ∈ hNest) (hR : rm'.frames + 1 ≤ rm.frames ∧ 8 + (maxL + 11) + rm'.locals ≤ rm.locals) (hsum : (st.map fun v => v.category).sum ≤ 8) (hsz : L.length = nL) (hcs : n + rm'.cells ≤ rm.cells ∧ z + rm'.slots ≤ rm.slots) (d : decode cc pc = .ok (.invokestatic index, 3)) (hstk : stk = As.reverse ++ st) (hq : pc + 3 = q)
    (kk : ∀ (r : Option Value) (M1 : hM), post r M1 → hG Γ k A Q M1 (n + rm'.cells) (z + rm'.slots) q L (r.toList ++ st)) : hG Γ k A Q M n z pc L stk := by
  subst hq
  intro H locs ls h1 h2 h3 h4
  rw [← C.la] at hm
  refine h_after C (va_runSN (As := As) (rest := st) ⟨C.ex, C.cd, C.ml, C.ow, C.ts⟩ (hm H.size) ⟨va_cnB As.length (hYF.ts C Y.1) Y.1.good rfl rfl rfl (C.hx.2.2.2.2.1 _ hl) (C.ts _ Y.1.2.1) ⟨Y.1.2.2.1.1, Y.1.2.2.1.2, Y.1.2.2.2⟩ (by rw [C.ro]; exact hR), C.ts _ Y.2, trivial⟩ ⟨hBx_blind, fun U hU hW => ⟨rfl, hBx_at C h1 h2 h3 U hU hW⟩⟩ rfl rfl (by rw [← hsz]; exact h4.1) hstk (h_sum hsum) d (by rw [C.ro]; exact hcs)) h2 h3 h4 kk
theorem gx_callI {q b : Nat} {As stk : List Value} (C : hC Γ l k own nm cc nL ret rm A) (Y : hYI y bytes maxL As.length) (hm : hMet Γ l y bytes maxL none rm' (.ref b :: As) M post) (hl : Cond.methodLink own index y ∈ hTbl) (hR : rm'.frames + 1 ≤ rm.frames ∧ 8 + (maxL + 11) + rm'.locals ≤ rm.locals) (hsum : (st.map fun v => v.category).sum ≤ 8) (hsz : L.length = nL) (hcs : n + rm'.cells ≤ rm.cells ∧ z + rm'.slots ≤ rm.slots) (d : decode cc pc = .ok (.invokespecial index, 3)) (hstk : stk = As.reverse ++ .ref b :: st) (hq : pc + 3 = q)
    (kk : ∀ (r : Option Value) (M1 : hM), post r M1 → hG Γ k A Q M1 (n + rm'.cells) (z + rm'.slots) q L (r.toList ++ st)) : hG Γ k A Q M n z pc L stk := by
  subst hq
  intro H locs ls h1 h2 h3 h4
  rw [← C.la] at hm
  refine h_after C (va_runI (As := As) (rest := st) ⟨C.ex, C.cd, C.ml, C.ow, C.ts⟩ (hm H.size) ⟨hYF.cb C Y.1 hl hR, Y.2.2, C.ts _ Y.2.1⟩ ⟨hBx_blind, fun U hU hW => ⟨rfl, hBx_at C h1 h2 h3 U hU hW⟩⟩ rfl rfl (by rw [← hsz]; exact h4.1) hstk (h_sum hsum) d (by rw [C.ro]; exact hcs)) h2 h3 h4 kk
theorem g_callV0P {q : Nat} {e : Int32} {b ci N : Nat} {T : u_T} {w : Bool} {fs : List Value} (C : hC Γ l k own nm cc nL ret rm A) (Y : hYV y bytes maxL rt 0) (hm : hMet Γ l y bytes maxL rt rm' (.ref b :: []) M (hpP M e)) (hl : Cond.methodLink own index y ∈ hTbl) (hb : M b = some (w, .inr (ci, fs))) (hc : vwCl[ci]? = some (y.cls, T, N)) (hR : rm'.frames + 1 ≤ rm.frames ∧ 8 + (maxL + 11) + rm'.locals ≤ rm.locals) (hsum : (st.map fun v => v.category).sum ≤ 8) (hsz : L.length = nL) (d : decode cc pc = .ok (.invokevirtual index, 3)) (h0 : rm'.cells = 0 ∧ rm'.slots = 0) (hcs : n ≤ rm.cells ∧ z ≤ rm.slots) (hq : pc + 3 = q) (kk : hG Γ k A Q M n z q L (.int e :: st)) : hG Γ k A Q M n z pc L (.ref b :: st) := by
  refine gx_callV (As := []) C Y hm hl hb hc hR hsum hsz (by rw [h0.1, h0.2]; exact hcs) d rfl hq (fun r M1 hp => by
    obtain ⟨x, rfl, rfl, rfl⟩ := hp
    exact (by rw [h0.1, h0.2]; exact kk))
theorem g_callV0O {q : Nat} {e : Option Nat} {b ci N : Nat} {T : u_T} {w : Bool} {fs : List Value} (C : hC Γ l k own nm cc nL ret rm A) (Y : hYV y bytes maxL rt 0) (hm : hMet Γ l y bytes maxL rt rm' (.ref b :: []) M (hpO M e)) (hl : Cond.methodLink own index y ∈ hTbl) (hb : M b = some (w, .inr (ci, fs))) (hc : vwCl[ci]? = some (y.cls, T, N)) (hR : rm'.frames + 1 ≤ rm.frames ∧ 8 + (maxL + 11) + rm'.locals ≤ rm.locals) (hsum : (st.map fun v => v.category).sum ≤ 8) (hsz : L.length = nL) (d : decode cc pc = .ok (.invokevirtual index, 3)) (h0 : rm'.cells = 0 ∧ rm'.slots = 0) (hcs : n ≤ rm.cells ∧ z ≤ rm.slots) (hq : pc + 3 = q) (kk : hG Γ k A Q M n z q L (va_rf e :: st)) : hG Γ k A Q M n z pc L (.ref b :: st) := by
  refine gx_callV (As := []) C Y hm hl hb hc hR hsum hsz (by rw [h0.1, h0.2]; exact hcs) d rfl hq (fun r M1 hp => by
    obtain ⟨x, rfl, rfl, rfl⟩ := hp
    exact (by rw [h0.1, h0.2]; exact kk))
theorem g_callV0I {q : Nat} {pi : Int32 → hM → Prop} {b ci N : Nat} {T : u_T} {w : Bool} {fs : List Value} (C : hC Γ l k own nm cc nL ret rm A) (Y : hYV y bytes maxL rt 0) (hm : hMet Γ l y bytes maxL rt rm' (.ref b :: []) M (hpI pi)) (hl : Cond.methodLink own index y ∈ hTbl) (hb : M b = some (w, .inr (ci, fs))) (hc : vwCl[ci]? = some (y.cls, T, N)) (hR : rm'.frames + 1 ≤ rm.frames ∧ 8 + (maxL + 11) + rm'.locals ≤ rm.locals) (hsum : (st.map fun v => v.category).sum ≤ 8) (hsz : L.length = nL) (d : decode cc pc = .ok (.invokevirtual index, 3)) (h0 : rm'.cells = 0 ∧ rm'.slots = 0) (hcs : n ≤ rm.cells ∧ z ≤ rm.slots) (hq : pc + 3 = q) (kk : ∀ (x : Int32) (M1 : hM), pi x M1 → hG Γ k A Q M1 n z q L (.int x :: st)) : hG Γ k A Q M n z pc L (.ref b :: st) := by
  refine gx_callV (As := []) C Y hm hl hb hc hR hsum hsz (by rw [h0.1, h0.2]; exact hcs) d rfl hq (fun r M1 hp => by
    obtain ⟨x, rfl, hx⟩ := hp
    exact (by rw [h0.1, h0.2]; exact kk x M1 hx))
theorem g_callV0Im {q : Nat} {pi : Int32 → hM → Prop} {b ci N : Nat} {T : u_T} {w : Bool} {fs : List Value} (C : hC Γ l k own nm cc nL ret rm A) (Y : hYV y bytes maxL rt 0) (hm : hMet Γ l y bytes maxL rt rm' (.ref b :: []) M (hpI pi)) (hl : Cond.methodLink own index y ∈ hTbl) (hb : M b = some (w, .inr (ci, fs))) (hc : vwCl[ci]? = some (y.cls, T, N)) (hR : rm'.frames + 1 ≤ rm.frames ∧ 8 + (maxL + 11) + rm'.locals ≤ rm.locals) (hsum : (st.map fun v => v.category).sum ≤ 8) (hsz : L.length = nL) (d : decode cc pc = .ok (.invokevirtual index, 3)) (hcs : n + rm'.cells ≤ rm.cells ∧ z + rm'.slots ≤ rm.slots) (hq : pc + 3 = q) (kk : ∀ (x : Int32) (M1 : hM), pi x M1 → hG Γ k A Q M1 (n + rm'.cells) (z + rm'.slots) q L (.int x :: st)) : hG Γ k A Q M n z pc L (.ref b :: st) := by
  refine gx_callV (As := []) C Y hm hl hb hc hR hsum hsz hcs d rfl hq (fun r M1 hp => by
    obtain ⟨x, rfl, hx⟩ := hp
    exact kk x M1 hx)
theorem g_callV0L {q : Nat} {pi : Int64 → hM → Prop} {b ci N : Nat} {T : u_T} {w : Bool} {fs : List Value} (C : hC Γ l k own nm cc nL ret rm A) (Y : hYV y bytes maxL rt 0) (hm : hMet Γ l y bytes maxL rt rm' (.ref b :: []) M (hpL pi)) (hl : Cond.methodLink own index y ∈ hTbl) (hb : M b = some (w, .inr (ci, fs))) (hc : vwCl[ci]? = some (y.cls, T, N)) (hR : rm'.frames + 1 ≤ rm.frames ∧ 8 + (maxL + 11) + rm'.locals ≤ rm.locals) (hsum : (st.map fun v => v.category).sum ≤ 8) (hsz : L.length = nL) (d : decode cc pc = .ok (.invokevirtual index, 3)) (h0 : rm'.cells = 0 ∧ rm'.slots = 0) (hcs : n ≤ rm.cells ∧ z ≤ rm.slots) (hq : pc + 3 = q) (kk : ∀ (x : Int64) (M1 : hM), pi x M1 → hG Γ k A Q M1 n z q L (.long x :: st)) : hG Γ k A Q M n z pc L (.ref b :: st) := by
  refine gx_callV (As := []) C Y hm hl hb hc hR hsum hsz (by rw [h0.1, h0.2]; exact hcs) d rfl hq (fun r M1 hp => by
    obtain ⟨x, rfl, hx⟩ := hp
    exact (by rw [h0.1, h0.2]; exact kk x M1 hx))
theorem g_callV0Q {q : Nat} {pi : Option Nat → hM → Prop} {b ci N : Nat} {T : u_T} {w : Bool} {fs : List Value} (C : hC Γ l k own nm cc nL ret rm A) (Y : hYV y bytes maxL rt 0) (hm : hMet Γ l y bytes maxL rt rm' (.ref b :: []) M (hpQ pi)) (hl : Cond.methodLink own index y ∈ hTbl) (hb : M b = some (w, .inr (ci, fs))) (hc : vwCl[ci]? = some (y.cls, T, N)) (hR : rm'.frames + 1 ≤ rm.frames ∧ 8 + (maxL + 11) + rm'.locals ≤ rm.locals) (hsum : (st.map fun v => v.category).sum ≤ 8) (hsz : L.length = nL) (d : decode cc pc = .ok (.invokevirtual index, 3)) (h0 : rm'.cells = 0 ∧ rm'.slots = 0) (hcs : n ≤ rm.cells ∧ z ≤ rm.slots) (hq : pc + 3 = q) (kk : ∀ (x : Option Nat) (M1 : hM), pi x M1 → hG Γ k A Q M1 n z q L (va_rf x :: st)) : hG Γ k A Q M n z pc L (.ref b :: st) := by
  refine gx_callV (As := []) C Y hm hl hb hc hR hsum hsz (by rw [h0.1, h0.2]; exact hcs) d rfl hq (fun r M1 hp => by
    obtain ⟨x, rfl, hx⟩ := hp
    exact (by rw [h0.1, h0.2]; exact kk x M1 hx))
theorem g_callV0Qm {q : Nat} {pi : Option Nat → hM → Prop} {b ci N : Nat} {T : u_T} {w : Bool} {fs : List Value} (C : hC Γ l k own nm cc nL ret rm A) (Y : hYV y bytes maxL rt 0) (hm : hMet Γ l y bytes maxL rt rm' (.ref b :: []) M (hpQ pi)) (hl : Cond.methodLink own index y ∈ hTbl) (hb : M b = some (w, .inr (ci, fs))) (hc : vwCl[ci]? = some (y.cls, T, N)) (hR : rm'.frames + 1 ≤ rm.frames ∧ 8 + (maxL + 11) + rm'.locals ≤ rm.locals) (hsum : (st.map fun v => v.category).sum ≤ 8) (hsz : L.length = nL) (d : decode cc pc = .ok (.invokevirtual index, 3)) (hcs : n + rm'.cells ≤ rm.cells ∧ z + rm'.slots ≤ rm.slots) (hq : pc + 3 = q) (kk : ∀ (x : Option Nat) (M1 : hM), pi x M1 → hG Γ k A Q M1 (n + rm'.cells) (z + rm'.slots) q L (va_rf x :: st)) : hG Γ k A Q M n z pc L (.ref b :: st) := by
  refine gx_callV (As := []) C Y hm hl hb hc hR hsum hsz hcs d rfl hq (fun r M1 hp => by
    obtain ⟨x, rfl, hx⟩ := hp
    exact kk x M1 hx)
theorem g_callV0V {q : Nat} {pi : hM → Prop} {b ci N : Nat} {T : u_T} {w : Bool} {fs : List Value} (C : hC Γ l k own nm cc nL ret rm A) (Y : hYV y bytes maxL rt 0) (hm : hMet Γ l y bytes maxL rt rm' (.ref b :: []) M (hpV pi)) (hl : Cond.methodLink own index y ∈ hTbl) (hb : M b = some (w, .inr (ci, fs))) (hc : vwCl[ci]? = some (y.cls, T, N)) (hR : rm'.frames + 1 ≤ rm.frames ∧ 8 + (maxL + 11) + rm'.locals ≤ rm.locals) (hsum : (st.map fun v => v.category).sum ≤ 8) (hsz : L.length = nL) (d : decode cc pc = .ok (.invokevirtual index, 3)) (h0 : rm'.cells = 0 ∧ rm'.slots = 0) (hcs : n ≤ rm.cells ∧ z ≤ rm.slots) (hq : pc + 3 = q) (kk : ∀ M1 : hM, pi M1 → hG Γ k A Q M1 n z q L st) : hG Γ k A Q M n z pc L (.ref b :: st) := by
  refine gx_callV (As := []) C Y hm hl hb hc hR hsum hsz (by rw [h0.1, h0.2]; exact hcs) d rfl hq (fun r M1 hp => by
    obtain ⟨rfl, hx⟩ := hp
    exact (by rw [h0.1, h0.2]; exact kk M1 hx))
theorem g_callV0Vm {q : Nat} {pi : hM → Prop} {b ci N : Nat} {T : u_T} {w : Bool} {fs : List Value} (C : hC Γ l k own nm cc nL ret rm A) (Y : hYV y bytes maxL rt 0) (hm : hMet Γ l y bytes maxL rt rm' (.ref b :: []) M (hpV pi)) (hl : Cond.methodLink own index y ∈ hTbl) (hb : M b = some (w, .inr (ci, fs))) (hc : vwCl[ci]? = some (y.cls, T, N)) (hR : rm'.frames + 1 ≤ rm.frames ∧ 8 + (maxL + 11) + rm'.locals ≤ rm.locals) (hsum : (st.map fun v => v.category).sum ≤ 8) (hsz : L.length = nL) (d : decode cc pc = .ok (.invokevirtual index, 3)) (hcs : n + rm'.cells ≤ rm.cells ∧ z + rm'.slots ≤ rm.slots) (hq : pc + 3 = q) (kk : ∀ M1 : hM, pi M1 → hG Γ k A Q M1 (n + rm'.cells) (z + rm'.slots) q L st) : hG Γ k A Q M n z pc L (.ref b :: st) := by
  refine gx_callV (As := []) C Y hm hl hb hc hR hsum hsz hcs d rfl hq (fun r M1 hp => by
    obtain ⟨rfl, hx⟩ := hp
    exact kk M1 hx)
theorem g_callV1P {q : Nat} {e : Int32} {b ci N : Nat} {T : u_T} {w : Bool} {fs : List Value} {v1 : Value} (C : hC Γ l k own nm cc nL ret rm A) (Y : hYV y bytes maxL rt 1) (hm : hMet Γ l y bytes maxL rt rm' (.ref b :: [v1]) M (hpP M e)) (hl : Cond.methodLink own index y ∈ hTbl) (hb : M b = some (w, .inr (ci, fs))) (hc : vwCl[ci]? = some (y.cls, T, N)) (hR : rm'.frames + 1 ≤ rm.frames ∧ 8 + (maxL + 11) + rm'.locals ≤ rm.locals) (hsum : (st.map fun v => v.category).sum ≤ 8) (hsz : L.length = nL) (d : decode cc pc = .ok (.invokevirtual index, 3)) (h0 : rm'.cells = 0 ∧ rm'.slots = 0) (hcs : n ≤ rm.cells ∧ z ≤ rm.slots) (hq : pc + 3 = q) (kk : hG Γ k A Q M n z q L (.int e :: st)) : hG Γ k A Q M n z pc L (v1 :: .ref b :: st) := by
  refine gx_callV (As := [v1]) C Y hm hl hb hc hR hsum hsz (by rw [h0.1, h0.2]; exact hcs) d rfl hq (fun r M1 hp => by
    obtain ⟨x, rfl, rfl, rfl⟩ := hp
    exact (by rw [h0.1, h0.2]; exact kk))
theorem g_callV1O {q : Nat} {e : Option Nat} {b ci N : Nat} {T : u_T} {w : Bool} {fs : List Value} {v1 : Value} (C : hC Γ l k own nm cc nL ret rm A) (Y : hYV y bytes maxL rt 1) (hm : hMet Γ l y bytes maxL rt rm' (.ref b :: [v1]) M (hpO M e)) (hl : Cond.methodLink own index y ∈ hTbl) (hb : M b = some (w, .inr (ci, fs))) (hc : vwCl[ci]? = some (y.cls, T, N)) (hR : rm'.frames + 1 ≤ rm.frames ∧ 8 + (maxL + 11) + rm'.locals ≤ rm.locals) (hsum : (st.map fun v => v.category).sum ≤ 8) (hsz : L.length = nL) (d : decode cc pc = .ok (.invokevirtual index, 3)) (h0 : rm'.cells = 0 ∧ rm'.slots = 0) (hcs : n ≤ rm.cells ∧ z ≤ rm.slots) (hq : pc + 3 = q) (kk : hG Γ k A Q M n z q L (va_rf e :: st)) : hG Γ k A Q M n z pc L (v1 :: .ref b :: st) := by
  refine gx_callV (As := [v1]) C Y hm hl hb hc hR hsum hsz (by rw [h0.1, h0.2]; exact hcs) d rfl hq (fun r M1 hp => by
    obtain ⟨x, rfl, rfl, rfl⟩ := hp
    exact (by rw [h0.1, h0.2]; exact kk))
theorem g_callV1I {q : Nat} {pi : Int32 → hM → Prop} {b ci N : Nat} {T : u_T} {w : Bool} {fs : List Value} {v1 : Value} (C : hC Γ l k own nm cc nL ret rm A) (Y : hYV y bytes maxL rt 1) (hm : hMet Γ l y bytes maxL rt rm' (.ref b :: [v1]) M (hpI pi)) (hl : Cond.methodLink own index y ∈ hTbl) (hb : M b = some (w, .inr (ci, fs))) (hc : vwCl[ci]? = some (y.cls, T, N)) (hR : rm'.frames + 1 ≤ rm.frames ∧ 8 + (maxL + 11) + rm'.locals ≤ rm.locals) (hsum : (st.map fun v => v.category).sum ≤ 8) (hsz : L.length = nL) (d : decode cc pc = .ok (.invokevirtual index, 3)) (h0 : rm'.cells = 0 ∧ rm'.slots = 0) (hcs : n ≤ rm.cells ∧ z ≤ rm.slots) (hq : pc + 3 = q) (kk : ∀ (x : Int32) (M1 : hM), pi x M1 → hG Γ k A Q M1 n z q L (.int x :: st)) : hG Γ k A Q M n z pc L (v1 :: .ref b :: st) := by
  refine gx_callV (As := [v1]) C Y hm hl hb hc hR hsum hsz (by rw [h0.1, h0.2]; exact hcs) d rfl hq (fun r M1 hp => by
    obtain ⟨x, rfl, hx⟩ := hp
    exact (by rw [h0.1, h0.2]; exact kk x M1 hx))
theorem g_callV1Im {q : Nat} {pi : Int32 → hM → Prop} {b ci N : Nat} {T : u_T} {w : Bool} {fs : List Value} {v1 : Value} (C : hC Γ l k own nm cc nL ret rm A) (Y : hYV y bytes maxL rt 1) (hm : hMet Γ l y bytes maxL rt rm' (.ref b :: [v1]) M (hpI pi)) (hl : Cond.methodLink own index y ∈ hTbl) (hb : M b = some (w, .inr (ci, fs))) (hc : vwCl[ci]? = some (y.cls, T, N)) (hR : rm'.frames + 1 ≤ rm.frames ∧ 8 + (maxL + 11) + rm'.locals ≤ rm.locals) (hsum : (st.map fun v => v.category).sum ≤ 8) (hsz : L.length = nL) (d : decode cc pc = .ok (.invokevirtual index, 3)) (hcs : n + rm'.cells ≤ rm.cells ∧ z + rm'.slots ≤ rm.slots) (hq : pc + 3 = q) (kk : ∀ (x : Int32) (M1 : hM), pi x M1 → hG Γ k A Q M1 (n + rm'.cells) (z + rm'.slots) q L (.int x :: st)) : hG Γ k A Q M n z pc L (v1 :: .ref b :: st) := by
  refine gx_callV (As := [v1]) C Y hm hl hb hc hR hsum hsz hcs d rfl hq (fun r M1 hp => by
    obtain ⟨x, rfl, hx⟩ := hp
    exact kk x M1 hx)
theorem g_callV1L {q : Nat} {pi : Int64 → hM → Prop} {b ci N : Nat} {T : u_T} {w : Bool} {fs : List Value} {v1 : Value} (C : hC Γ l k own nm cc nL ret rm A) (Y : hYV y bytes maxL rt 1) (hm : hMet Γ l y bytes maxL rt rm' (.ref b :: [v1]) M (hpL pi)) (hl : Cond.methodLink own index y ∈ hTbl) (hb : M b = some (w, .inr (ci, fs))) (hc : vwCl[ci]? = some (y.cls, T, N)) (hR : rm'.frames + 1 ≤ rm.frames ∧ 8 + (maxL + 11) + rm'.locals ≤ rm.locals) (hsum : (st.map fun v => v.category).sum ≤ 8) (hsz : L.length = nL) (d : decode cc pc = .ok (.invokevirtual index, 3)) (h0 : rm'.cells = 0 ∧ rm'.slots = 0) (hcs : n ≤ rm.cells ∧ z ≤ rm.slots) (hq : pc + 3 = q) (kk : ∀ (x : Int64) (M1 : hM), pi x M1 → hG Γ k A Q M1 n z q L (.long x :: st)) : hG Γ k A Q M n z pc L (v1 :: .ref b :: st) := by
  refine gx_callV (As := [v1]) C Y hm hl hb hc hR hsum hsz (by rw [h0.1, h0.2]; exact hcs) d rfl hq (fun r M1 hp => by
    obtain ⟨x, rfl, hx⟩ := hp
    exact (by rw [h0.1, h0.2]; exact kk x M1 hx))
theorem g_callV1Q {q : Nat} {pi : Option Nat → hM → Prop} {b ci N : Nat} {T : u_T} {w : Bool} {fs : List Value} {v1 : Value} (C : hC Γ l k own nm cc nL ret rm A) (Y : hYV y bytes maxL rt 1) (hm : hMet Γ l y bytes maxL rt rm' (.ref b :: [v1]) M (hpQ pi)) (hl : Cond.methodLink own index y ∈ hTbl) (hb : M b = some (w, .inr (ci, fs))) (hc : vwCl[ci]? = some (y.cls, T, N)) (hR : rm'.frames + 1 ≤ rm.frames ∧ 8 + (maxL + 11) + rm'.locals ≤ rm.locals) (hsum : (st.map fun v => v.category).sum ≤ 8) (hsz : L.length = nL) (d : decode cc pc = .ok (.invokevirtual index, 3)) (h0 : rm'.cells = 0 ∧ rm'.slots = 0) (hcs : n ≤ rm.cells ∧ z ≤ rm.slots) (hq : pc + 3 = q) (kk : ∀ (x : Option Nat) (M1 : hM), pi x M1 → hG Γ k A Q M1 n z q L (va_rf x :: st)) : hG Γ k A Q M n z pc L (v1 :: .ref b :: st) := by
  refine gx_callV (As := [v1]) C Y hm hl hb hc hR hsum hsz (by rw [h0.1, h0.2]; exact hcs) d rfl hq (fun r M1 hp => by
    obtain ⟨x, rfl, hx⟩ := hp
    exact (by rw [h0.1, h0.2]; exact kk x M1 hx))
theorem g_callV1Qm {q : Nat} {pi : Option Nat → hM → Prop} {b ci N : Nat} {T : u_T} {w : Bool} {fs : List Value} {v1 : Value} (C : hC Γ l k own nm cc nL ret rm A) (Y : hYV y bytes maxL rt 1) (hm : hMet Γ l y bytes maxL rt rm' (.ref b :: [v1]) M (hpQ pi)) (hl : Cond.methodLink own index y ∈ hTbl) (hb : M b = some (w, .inr (ci, fs))) (hc : vwCl[ci]? = some (y.cls, T, N)) (hR : rm'.frames + 1 ≤ rm.frames ∧ 8 + (maxL + 11) + rm'.locals ≤ rm.locals) (hsum : (st.map fun v => v.category).sum ≤ 8) (hsz : L.length = nL) (d : decode cc pc = .ok (.invokevirtual index, 3)) (hcs : n + rm'.cells ≤ rm.cells ∧ z + rm'.slots ≤ rm.slots) (hq : pc + 3 = q) (kk : ∀ (x : Option Nat) (M1 : hM), pi x M1 → hG Γ k A Q M1 (n + rm'.cells) (z + rm'.slots) q L (va_rf x :: st)) : hG Γ k A Q M n z pc L (v1 :: .ref b :: st) := by
  refine gx_callV (As := [v1]) C Y hm hl hb hc hR hsum hsz hcs d rfl hq (fun r M1 hp => by
    obtain ⟨x, rfl, hx⟩ := hp
    exact kk x M1 hx)
theorem g_callV1V {q : Nat} {pi : hM → Prop} {b ci N : Nat} {T : u_T} {w : Bool} {fs : List Value} {v1 : Value} (C : hC Γ l k own nm cc nL ret rm A) (Y : hYV y bytes maxL rt 1) (hm : hMet Γ l y bytes maxL rt rm' (.ref b :: [v1]) M (hpV pi)) (hl : Cond.methodLink own index y ∈ hTbl) (hb : M b = some (w, .inr (ci, fs))) (hc : vwCl[ci]? = some (y.cls, T, N)) (hR : rm'.frames + 1 ≤ rm.frames ∧ 8 + (maxL + 11) + rm'.locals ≤ rm.locals) (hsum : (st.map fun v => v.category).sum ≤ 8) (hsz : L.length = nL) (d : decode cc pc = .ok (.invokevirtual index, 3)) (h0 : rm'.cells = 0 ∧ rm'.slots = 0) (hcs : n ≤ rm.cells ∧ z ≤ rm.slots) (hq : pc + 3 = q) (kk : ∀ M1 : hM, pi M1 → hG Γ k A Q M1 n z q L st) : hG Γ k A Q M n z pc L (v1 :: .ref b :: st) := by
  refine gx_callV (As := [v1]) C Y hm hl hb hc hR hsum hsz (by rw [h0.1, h0.2]; exact hcs) d rfl hq (fun r M1 hp => by
    obtain ⟨rfl, hx⟩ := hp
    exact (by rw [h0.1, h0.2]; exact kk M1 hx))
theorem g_callV1Vm {q : Nat} {pi : hM → Prop} {b ci N : Nat} {T : u_T} {w : Bool} {fs : List Value} {v1 : Value} (C : hC Γ l k own nm cc nL ret rm A) (Y : hYV y bytes maxL rt 1) (hm : hMet Γ l y bytes maxL rt rm' (.ref b :: [v1]) M (hpV pi)) (hl : Cond.methodLink own index y ∈ hTbl) (hb : M b = some (w, .inr (ci, fs))) (hc : vwCl[ci]? = some (y.cls, T, N)) (hR : rm'.frames + 1 ≤ rm.frames ∧ 8 + (maxL + 11) + rm'.locals ≤ rm.locals) (hsum : (st.map fun v => v.category).sum ≤ 8) (hsz : L.length = nL) (d : decode cc pc = .ok (.invokevirtual index, 3)) (hcs : n + rm'.cells ≤ rm.cells ∧ z + rm'.slots ≤ rm.slots) (hq : pc + 3 = q) (kk : ∀ M1 : hM, pi M1 → hG Γ k A Q M1 (n + rm'.cells) (z + rm'.slots) q L st) : hG Γ k A Q M n z pc L (v1 :: .ref b :: st) := by
  refine gx_callV (As := [v1]) C Y hm hl hb hc hR hsum hsz hcs d rfl hq (fun r M1 hp => by
    obtain ⟨rfl, hx⟩ := hp
    exact kk M1 hx)
theorem g_callV2P {q : Nat} {e : Int32} {b ci N : Nat} {T : u_T} {w : Bool} {fs : List Value} {v1 v2 : Value} (C : hC Γ l k own nm cc nL ret rm A) (Y : hYV y bytes maxL rt 2) (hm : hMet Γ l y bytes maxL rt rm' (.ref b :: [v1, v2]) M (hpP M e)) (hl : Cond.methodLink own index y ∈ hTbl) (hb : M b = some (w, .inr (ci, fs))) (hc : vwCl[ci]? = some (y.cls, T, N)) (hR : rm'.frames + 1 ≤ rm.frames ∧ 8 + (maxL + 11) + rm'.locals ≤ rm.locals) (hsum : (st.map fun v => v.category).sum ≤ 8) (hsz : L.length = nL) (d : decode cc pc = .ok (.invokevirtual index, 3)) (h0 : rm'.cells = 0 ∧ rm'.slots = 0) (hcs : n ≤ rm.cells ∧ z ≤ rm.slots) (hq : pc + 3 = q) (kk : hG Γ k A Q M n z q L (.int e :: st)) : hG Γ k A Q M n z pc L (v2 :: v1 :: .ref b :: st) := by
  refine gx_callV (As := [v1, v2]) C Y hm hl hb hc hR hsum hsz (by rw [h0.1, h0.2]; exact hcs) d rfl hq (fun r M1 hp => by
    obtain ⟨x, rfl, rfl, rfl⟩ := hp
    exact (by rw [h0.1, h0.2]; exact kk))
theorem g_callV2O {q : Nat} {e : Option Nat} {b ci N : Nat} {T : u_T} {w : Bool} {fs : List Value} {v1 v2 : Value} (C : hC Γ l k own nm cc nL ret rm A) (Y : hYV y bytes maxL rt 2) (hm : hMet Γ l y bytes maxL rt rm' (.ref b :: [v1, v2]) M (hpO M e)) (hl : Cond.methodLink own index y ∈ hTbl) (hb : M b = some (w, .inr (ci, fs))) (hc : vwCl[ci]? = some (y.cls, T, N)) (hR : rm'.frames + 1 ≤ rm.frames ∧ 8 + (maxL + 11) + rm'.locals ≤ rm.locals) (hsum : (st.map fun v => v.category).sum ≤ 8) (hsz : L.length = nL) (d : decode cc pc = .ok (.invokevirtual index, 3)) (h0 : rm'.cells = 0 ∧ rm'.slots = 0) (hcs : n ≤ rm.cells ∧ z ≤ rm.slots) (hq : pc + 3 = q) (kk : hG Γ k A Q M n z q L (va_rf e :: st)) : hG Γ k A Q M n z pc L (v2 :: v1 :: .ref b :: st) := by
  refine gx_callV (As := [v1, v2]) C Y hm hl hb hc hR hsum hsz (by rw [h0.1, h0.2]; exact hcs) d rfl hq (fun r M1 hp => by
    obtain ⟨x, rfl, rfl, rfl⟩ := hp
    exact (by rw [h0.1, h0.2]; exact kk))
theorem g_callV2I {q : Nat} {pi : Int32 → hM → Prop} {b ci N : Nat} {T : u_T} {w : Bool} {fs : List Value} {v1 v2 : Value} (C : hC Γ l k own nm cc nL ret rm A) (Y : hYV y bytes maxL rt 2) (hm : hMet Γ l y bytes maxL rt rm' (.ref b :: [v1, v2]) M (hpI pi)) (hl : Cond.methodLink own index y ∈ hTbl) (hb : M b = some (w, .inr (ci, fs))) (hc : vwCl[ci]? = some (y.cls, T, N)) (hR : rm'.frames + 1 ≤ rm.frames ∧ 8 + (maxL + 11) + rm'.locals ≤ rm.locals) (hsum : (st.map fun v => v.category).sum ≤ 8) (hsz : L.length = nL) (d : decode cc pc = .ok (.invokevirtual index, 3)) (h0 : rm'.cells = 0 ∧ rm'.slots = 0) (hcs : n ≤ rm.cells ∧ z ≤ rm.slots) (hq : pc + 3 = q) (kk : ∀ (x : Int32) (M1 : hM), pi x M1 → hG Γ k A Q M1 n z q L (.int x :: st)) : hG Γ k A Q M n z pc L (v2 :: v1 :: .ref b :: st) := by
  refine gx_callV (As := [v1, v2]) C Y hm hl hb hc hR hsum hsz (by rw [h0.1, h0.2]; exact hcs) d rfl hq (fun r M1 hp => by
    obtain ⟨x, rfl, hx⟩ := hp
    exact (by rw [h0.1, h0.2]; exact kk x M1 hx))
theorem g_callV2Im {q : Nat} {pi : Int32 → hM → Prop} {b ci N : Nat} {T : u_T} {w : Bool} {fs : List Value} {v1 v2 : Value} (C : hC Γ l k own nm cc nL ret rm A) (Y : hYV y bytes maxL rt 2) (hm : hMet Γ l y bytes maxL rt rm' (.ref b :: [v1, v2]) M (hpI pi)) (hl : Cond.methodLink own index y ∈ hTbl) (hb : M b = some (w, .inr (ci, fs))) (hc : vwCl[ci]? = some (y.cls, T, N)) (hR : rm'.frames + 1 ≤ rm.frames ∧ 8 + (maxL + 11) + rm'.locals ≤ rm.locals) (hsum : (st.map fun v => v.category).sum ≤ 8) (hsz : L.length = nL) (d : decode cc pc = .ok (.invokevirtual index, 3)) (hcs : n + rm'.cells ≤ rm.cells ∧ z + rm'.slots ≤ rm.slots) (hq : pc + 3 = q) (kk : ∀ (x : Int32) (M1 : hM), pi x M1 → hG Γ k A Q M1 (n + rm'.cells) (z + rm'.slots) q L (.int x :: st)) : hG Γ k A Q M n z pc L (v2 :: v1 :: .ref b :: st) := by
  refine gx_callV (As := [v1, v2]) C Y hm hl hb hc hR hsum hsz hcs d rfl hq (fun r M1 hp => by
    obtain ⟨x, rfl, hx⟩ := hp
    exact kk x M1 hx)
theorem g_callV2L {q : Nat} {pi : Int64 → hM → Prop} {b ci N : Nat} {T : u_T} {w : Bool} {fs : List Value} {v1 v2 : Value} (C : hC Γ l k own nm cc nL ret rm A) (Y : hYV y bytes maxL rt 2) (hm : hMet Γ l y bytes maxL rt rm' (.ref b :: [v1, v2]) M (hpL pi)) (hl : Cond.methodLink own index y ∈ hTbl) (hb : M b = some (w, .inr (ci, fs))) (hc : vwCl[ci]? = some (y.cls, T, N)) (hR : rm'.frames + 1 ≤ rm.frames ∧ 8 + (maxL + 11) + rm'.locals ≤ rm.locals) (hsum : (st.map fun v => v.category).sum ≤ 8) (hsz : L.length = nL) (d : decode cc pc = .ok (.invokevirtual index, 3)) (h0 : rm'.cells = 0 ∧ rm'.slots = 0) (hcs : n ≤ rm.cells ∧ z ≤ rm.slots) (hq : pc + 3 = q) (kk : ∀ (x : Int64) (M1 : hM), pi x M1 → hG Γ k A Q M1 n z q L (.long x :: st)) : hG Γ k A Q M n z pc L (v2 :: v1 :: .ref b :: st) := by
  refine gx_callV (As := [v1, v2]) C Y hm hl hb hc hR hsum hsz (by rw [h0.1, h0.2]; exact hcs) d rfl hq (fun r M1 hp => by
    obtain ⟨x, rfl, hx⟩ := hp
    exact (by rw [h0.1, h0.2]; exact kk x M1 hx))
theorem g_callV2Q {q : Nat} {pi : Option Nat → hM → Prop} {b ci N : Nat} {T : u_T} {w : Bool} {fs : List Value} {v1 v2 : Value} (C : hC Γ l k own nm cc nL ret rm A) (Y : hYV y bytes maxL rt 2) (hm : hMet Γ l y bytes maxL rt rm' (.ref b :: [v1, v2]) M (hpQ pi)) (hl : Cond.methodLink own index y ∈ hTbl) (hb : M b = some (w, .inr (ci, fs))) (hc : vwCl[ci]? = some (y.cls, T, N)) (hR : rm'.frames + 1 ≤ rm.frames ∧ 8 + (maxL + 11) + rm'.locals ≤ rm.locals) (hsum : (st.map fun v => v.category).sum ≤ 8) (hsz : L.length = nL) (d : decode cc pc = .ok (.invokevirtual index, 3)) (h0 : rm'.cells = 0 ∧ rm'.slots = 0) (hcs : n ≤ rm.cells ∧ z ≤ rm.slots) (hq : pc + 3 = q) (kk : ∀ (x : Option Nat) (M1 : hM), pi x M1 → hG Γ k A Q M1 n z q L (va_rf x :: st)) : hG Γ k A Q M n z pc L (v2 :: v1 :: .ref b :: st) := by
  refine gx_callV (As := [v1, v2]) C Y hm hl hb hc hR hsum hsz (by rw [h0.1, h0.2]; exact hcs) d rfl hq (fun r M1 hp => by
    obtain ⟨x, rfl, hx⟩ := hp
    exact (by rw [h0.1, h0.2]; exact kk x M1 hx))
theorem g_callV2Qm {q : Nat} {pi : Option Nat → hM → Prop} {b ci N : Nat} {T : u_T} {w : Bool} {fs : List Value} {v1 v2 : Value} (C : hC Γ l k own nm cc nL ret rm A) (Y : hYV y bytes maxL rt 2) (hm : hMet Γ l y bytes maxL rt rm' (.ref b :: [v1, v2]) M (hpQ pi)) (hl : Cond.methodLink own index y ∈ hTbl) (hb : M b = some (w, .inr (ci, fs))) (hc : vwCl[ci]? = some (y.cls, T, N)) (hR : rm'.frames + 1 ≤ rm.frames ∧ 8 + (maxL + 11) + rm'.locals ≤ rm.locals) (hsum : (st.map fun v => v.category).sum ≤ 8) (hsz : L.length = nL) (d : decode cc pc = .ok (.invokevirtual index, 3)) (hcs : n + rm'.cells ≤ rm.cells ∧ z + rm'.slots ≤ rm.slots) (hq : pc + 3 = q) (kk : ∀ (x : Option Nat) (M1 : hM), pi x M1 → hG Γ k A Q M1 (n + rm'.cells) (z + rm'.slots) q L (va_rf x :: st)) : hG Γ k A Q M n z pc L (v2 :: v1 :: .ref b :: st) := by
  refine gx_callV (As := [v1, v2]) C Y hm hl hb hc hR hsum hsz hcs d rfl hq (fun r M1 hp => by
    obtain ⟨x, rfl, hx⟩ := hp
    exact kk x M1 hx)
theorem g_callV2V {q : Nat} {pi : hM → Prop} {b ci N : Nat} {T : u_T} {w : Bool} {fs : List Value} {v1 v2 : Value} (C : hC Γ l k own nm cc nL ret rm A) (Y : hYV y bytes maxL rt 2) (hm : hMet Γ l y bytes maxL rt rm' (.ref b :: [v1, v2]) M (hpV pi)) (hl : Cond.methodLink own index y ∈ hTbl) (hb : M b = some (w, .inr (ci, fs))) (hc : vwCl[ci]? = some (y.cls, T, N)) (hR : rm'.frames + 1 ≤ rm.frames ∧ 8 + (maxL + 11) + rm'.locals ≤ rm.locals) (hsum : (st.map fun v => v.category).sum ≤ 8) (hsz : L.length = nL) (d : decode cc pc = .ok (.invokevirtual index, 3)) (h0 : rm'.cells = 0 ∧ rm'.slots = 0) (hcs : n ≤ rm.cells ∧ z ≤ rm.slots) (hq : pc + 3 = q) (kk : ∀ M1 : hM, pi M1 → hG Γ k A Q M1 n z q L st) : hG Γ k A Q M n z pc L (v2 :: v1 :: .ref b :: st) := by
  refine gx_callV (As := [v1, v2]) C Y hm hl hb hc hR hsum hsz (by rw [h0.1, h0.2]; exact hcs) d rfl hq (fun r M1 hp => by
    obtain ⟨rfl, hx⟩ := hp
    exact (by rw [h0.1, h0.2]; exact kk M1 hx))
theorem g_callV2Vm {q : Nat} {pi : hM → Prop} {b ci N : Nat} {T : u_T} {w : Bool} {fs : List Value} {v1 v2 : Value} (C : hC Γ l k own nm cc nL ret rm A) (Y : hYV y bytes maxL rt 2) (hm : hMet Γ l y bytes maxL rt rm' (.ref b :: [v1, v2]) M (hpV pi)) (hl : Cond.methodLink own index y ∈ hTbl) (hb : M b = some (w, .inr (ci, fs))) (hc : vwCl[ci]? = some (y.cls, T, N)) (hR : rm'.frames + 1 ≤ rm.frames ∧ 8 + (maxL + 11) + rm'.locals ≤ rm.locals) (hsum : (st.map fun v => v.category).sum ≤ 8) (hsz : L.length = nL) (d : decode cc pc = .ok (.invokevirtual index, 3)) (hcs : n + rm'.cells ≤ rm.cells ∧ z + rm'.slots ≤ rm.slots) (hq : pc + 3 = q) (kk : ∀ M1 : hM, pi M1 → hG Γ k A Q M1 (n + rm'.cells) (z + rm'.slots) q L st) : hG Γ k A Q M n z pc L (v2 :: v1 :: .ref b :: st) := by
  refine gx_callV (As := [v1, v2]) C Y hm hl hb hc hR hsum hsz hcs d rfl hq (fun r M1 hp => by
    obtain ⟨rfl, hx⟩ := hp
    exact kk M1 hx)
theorem g_callV3P {q : Nat} {e : Int32} {b ci N : Nat} {T : u_T} {w : Bool} {fs : List Value} {v1 v2 v3 : Value} (C : hC Γ l k own nm cc nL ret rm A) (Y : hYV y bytes maxL rt 3) (hm : hMet Γ l y bytes maxL rt rm' (.ref b :: [v1, v2, v3]) M (hpP M e)) (hl : Cond.methodLink own index y ∈ hTbl) (hb : M b = some (w, .inr (ci, fs))) (hc : vwCl[ci]? = some (y.cls, T, N)) (hR : rm'.frames + 1 ≤ rm.frames ∧ 8 + (maxL + 11) + rm'.locals ≤ rm.locals) (hsum : (st.map fun v => v.category).sum ≤ 8) (hsz : L.length = nL) (d : decode cc pc = .ok (.invokevirtual index, 3)) (h0 : rm'.cells = 0 ∧ rm'.slots = 0) (hcs : n ≤ rm.cells ∧ z ≤ rm.slots) (hq : pc + 3 = q) (kk : hG Γ k A Q M n z q L (.int e :: st)) : hG Γ k A Q M n z pc L (v3 :: v2 :: v1 :: .ref b :: st) := by
  refine gx_callV (As := [v1, v2, v3]) C Y hm hl hb hc hR hsum hsz (by rw [h0.1, h0.2]; exact hcs) d rfl hq (fun r M1 hp => by
    obtain ⟨x, rfl, rfl, rfl⟩ := hp
    exact (by rw [h0.1, h0.2]; exact kk))
theorem g_callV3O {q : Nat} {e : Option Nat} {b ci N : Nat} {T : u_T} {w : Bool} {fs : List Value} {v1 v2 v3 : Value} (C : hC Γ l k own nm cc nL ret rm A) (Y : hYV y bytes maxL rt 3) (hm : hMet Γ l y bytes maxL rt rm' (.ref b :: [v1, v2, v3]) M (hpO M e)) (hl : Cond.methodLink own index y ∈ hTbl) (hb : M b = some (w, .inr (ci, fs))) (hc : vwCl[ci]? = some (y.cls, T, N)) (hR : rm'.frames + 1 ≤ rm.frames ∧ 8 + (maxL + 11) + rm'.locals ≤ rm.locals) (hsum : (st.map fun v => v.category).sum ≤ 8) (hsz : L.length = nL) (d : decode cc pc = .ok (.invokevirtual index, 3)) (h0 : rm'.cells = 0 ∧ rm'.slots = 0) (hcs : n ≤ rm.cells ∧ z ≤ rm.slots) (hq : pc + 3 = q) (kk : hG Γ k A Q M n z q L (va_rf e :: st)) : hG Γ k A Q M n z pc L (v3 :: v2 :: v1 :: .ref b :: st) := by
  refine gx_callV (As := [v1, v2, v3]) C Y hm hl hb hc hR hsum hsz (by rw [h0.1, h0.2]; exact hcs) d rfl hq (fun r M1 hp => by
    obtain ⟨x, rfl, rfl, rfl⟩ := hp
    exact (by rw [h0.1, h0.2]; exact kk))
theorem g_callV3I {q : Nat} {pi : Int32 → hM → Prop} {b ci N : Nat} {T : u_T} {w : Bool} {fs : List Value} {v1 v2 v3 : Value} (C : hC Γ l k own nm cc nL ret rm A) (Y : hYV y bytes maxL rt 3) (hm : hMet Γ l y bytes maxL rt rm' (.ref b :: [v1, v2, v3]) M (hpI pi)) (hl : Cond.methodLink own index y ∈ hTbl) (hb : M b = some (w, .inr (ci, fs))) (hc : vwCl[ci]? = some (y.cls, T, N)) (hR : rm'.frames + 1 ≤ rm.frames ∧ 8 + (maxL + 11) + rm'.locals ≤ rm.locals) (hsum : (st.map fun v => v.category).sum ≤ 8) (hsz : L.length = nL) (d : decode cc pc = .ok (.invokevirtual index, 3)) (h0 : rm'.cells = 0 ∧ rm'.slots = 0) (hcs : n ≤ rm.cells ∧ z ≤ rm.slots) (hq : pc + 3 = q) (kk : ∀ (x : Int32) (M1 : hM), pi x M1 → hG Γ k A Q M1 n z q L (.int x :: st)) : hG Γ k A Q M n z pc L (v3 :: v2 :: v1 :: .ref b :: st) := by
  refine gx_callV (As := [v1, v2, v3]) C Y hm hl hb hc hR hsum hsz (by rw [h0.1, h0.2]; exact hcs) d rfl hq (fun r M1 hp => by
    obtain ⟨x, rfl, hx⟩ := hp
    exact (by rw [h0.1, h0.2]; exact kk x M1 hx))
theorem g_callV3Im {q : Nat} {pi : Int32 → hM → Prop} {b ci N : Nat} {T : u_T} {w : Bool} {fs : List Value} {v1 v2 v3 : Value} (C : hC Γ l k own nm cc nL ret rm A) (Y : hYV y bytes maxL rt 3) (hm : hMet Γ l y bytes maxL rt rm' (.ref b :: [v1, v2, v3]) M (hpI pi)) (hl : Cond.methodLink own index y ∈ hTbl) (hb : M b = some (w, .inr (ci, fs))) (hc : vwCl[ci]? = some (y.cls, T, N)) (hR : rm'.frames + 1 ≤ rm.frames ∧ 8 + (maxL + 11) + rm'.locals ≤ rm.locals) (hsum : (st.map fun v => v.category).sum ≤ 8) (hsz : L.length = nL) (d : decode cc pc = .ok (.invokevirtual index, 3)) (hcs : n + rm'.cells ≤ rm.cells ∧ z + rm'.slots ≤ rm.slots) (hq : pc + 3 = q) (kk : ∀ (x : Int32) (M1 : hM), pi x M1 → hG Γ k A Q M1 (n + rm'.cells) (z + rm'.slots) q L (.int x :: st)) : hG Γ k A Q M n z pc L (v3 :: v2 :: v1 :: .ref b :: st) := by
  refine gx_callV (As := [v1, v2, v3]) C Y hm hl hb hc hR hsum hsz hcs d rfl hq (fun r M1 hp => by
    obtain ⟨x, rfl, hx⟩ := hp
    exact kk x M1 hx)
theorem g_callV3L {q : Nat} {pi : Int64 → hM → Prop} {b ci N : Nat} {T : u_T} {w : Bool} {fs : List Value} {v1 v2 v3 : Value} (C : hC Γ l k own nm cc nL ret rm A) (Y : hYV y bytes maxL rt 3) (hm : hMet Γ l y bytes maxL rt rm' (.ref b :: [v1, v2, v3]) M (hpL pi)) (hl : Cond.methodLink own index y ∈ hTbl) (hb : M b = some (w, .inr (ci, fs))) (hc : vwCl[ci]? = some (y.cls, T, N)) (hR : rm'.frames + 1 ≤ rm.frames ∧ 8 + (maxL + 11) + rm'.locals ≤ rm.locals) (hsum : (st.map fun v => v.category).sum ≤ 8) (hsz : L.length = nL) (d : decode cc pc = .ok (.invokevirtual index, 3)) (h0 : rm'.cells = 0 ∧ rm'.slots = 0) (hcs : n ≤ rm.cells ∧ z ≤ rm.slots) (hq : pc + 3 = q) (kk : ∀ (x : Int64) (M1 : hM), pi x M1 → hG Γ k A Q M1 n z q L (.long x :: st)) : hG Γ k A Q M n z pc L (v3 :: v2 :: v1 :: .ref b :: st) := by
  refine gx_callV (As := [v1, v2, v3]) C Y hm hl hb hc hR hsum hsz (by rw [h0.1, h0.2]; exact hcs) d rfl hq (fun r M1 hp => by
    obtain ⟨x, rfl, hx⟩ := hp
    exact (by rw [h0.1, h0.2]; exact kk x M1 hx))
theorem g_callV3Q {q : Nat} {pi : Option Nat → hM → Prop} {b ci N : Nat} {T : u_T} {w : Bool} {fs : List Value} {v1 v2 v3 : Value} (C : hC Γ l k own nm cc nL ret rm A) (Y : hYV y bytes maxL rt 3) (hm : hMet Γ l y bytes maxL rt rm' (.ref b :: [v1, v2, v3]) M (hpQ pi)) (hl : Cond.methodLink own index y ∈ hTbl) (hb : M b = some (w, .inr (ci, fs))) (hc : vwCl[ci]? = some (y.cls, T, N)) (hR : rm'.frames + 1 ≤ rm.frames ∧ 8 + (maxL + 11) + rm'.locals ≤ rm.locals) (hsum : (st.map fun v => v.category).sum ≤ 8) (hsz : L.length = nL) (d : decode cc pc = .ok (.invokevirtual index, 3)) (h0 : rm'.cells = 0 ∧ rm'.slots = 0) (hcs : n ≤ rm.cells ∧ z ≤ rm.slots) (hq : pc + 3 = q) (kk : ∀ (x : Option Nat) (M1 : hM), pi x M1 → hG Γ k A Q M1 n z q L (va_rf x :: st)) : hG Γ k A Q M n z pc L (v3 :: v2 :: v1 :: .ref b :: st) := by
  refine gx_callV (As := [v1, v2, v3]) C Y hm hl hb hc hR hsum hsz (by rw [h0.1, h0.2]; exact hcs) d rfl hq (fun r M1 hp => by
    obtain ⟨x, rfl, hx⟩ := hp
    exact (by rw [h0.1, h0.2]; exact kk x M1 hx))
theorem g_callV3Qm {q : Nat} {pi : Option Nat → hM → Prop} {b ci N : Nat} {T : u_T} {w : Bool} {fs : List Value} {v1 v2 v3 : Value} (C : hC Γ l k own nm cc nL ret rm A) (Y : hYV y bytes maxL rt 3) (hm : hMet Γ l y bytes maxL rt rm' (.ref b :: [v1, v2, v3]) M (hpQ pi)) (hl : Cond.methodLink own index y ∈ hTbl) (hb : M b = some (w, .inr (ci, fs))) (hc : vwCl[ci]? = some (y.cls, T, N)) (hR : rm'.frames + 1 ≤ rm.frames ∧ 8 + (maxL + 11) + rm'.locals ≤ rm.locals) (hsum : (st.map fun v => v.category).sum ≤ 8) (hsz : L.length = nL) (d : decode cc pc = .ok (.invokevirtual index, 3)) (hcs : n + rm'.cells ≤ rm.cells ∧ z + rm'.slots ≤ rm.slots) (hq : pc + 3 = q) (kk : ∀ (x : Option Nat) (M1 : hM), pi x M1 → hG Γ k A Q M1 (n + rm'.cells) (z + rm'.slots) q L (va_rf x :: st)) : hG Γ k A Q M n z pc L (v3 :: v2 :: v1 :: .ref b :: st) := by
  refine gx_callV (As := [v1, v2, v3]) C Y hm hl hb hc hR hsum hsz hcs d rfl hq (fun r M1 hp => by
    obtain ⟨x, rfl, hx⟩ := hp
    exact kk x M1 hx)
theorem g_callV3V {q : Nat} {pi : hM → Prop} {b ci N : Nat} {T : u_T} {w : Bool} {fs : List Value} {v1 v2 v3 : Value} (C : hC Γ l k own nm cc nL ret rm A) (Y : hYV y bytes maxL rt 3) (hm : hMet Γ l y bytes maxL rt rm' (.ref b :: [v1, v2, v3]) M (hpV pi)) (hl : Cond.methodLink own index y ∈ hTbl) (hb : M b = some (w, .inr (ci, fs))) (hc : vwCl[ci]? = some (y.cls, T, N)) (hR : rm'.frames + 1 ≤ rm.frames ∧ 8 + (maxL + 11) + rm'.locals ≤ rm.locals) (hsum : (st.map fun v => v.category).sum ≤ 8) (hsz : L.length = nL) (d : decode cc pc = .ok (.invokevirtual index, 3)) (h0 : rm'.cells = 0 ∧ rm'.slots = 0) (hcs : n ≤ rm.cells ∧ z ≤ rm.slots) (hq : pc + 3 = q) (kk : ∀ M1 : hM, pi M1 → hG Γ k A Q M1 n z q L st) : hG Γ k A Q M n z pc L (v3 :: v2 :: v1 :: .ref b :: st) := by
  refine gx_callV (As := [v1, v2, v3]) C Y hm hl hb hc hR hsum hsz (by rw [h0.1, h0.2]; exact hcs) d rfl hq (fun r M1 hp => by
    obtain ⟨rfl, hx⟩ := hp
    exact (by rw [h0.1, h0.2]; exact kk M1 hx))
theorem g_callV3Vm {q : Nat} {pi : hM → Prop} {b ci N : Nat} {T : u_T} {w : Bool} {fs : List Value} {v1 v2 v3 : Value} (C : hC Γ l k own nm cc nL ret rm A) (Y : hYV y bytes maxL rt 3) (hm : hMet Γ l y bytes maxL rt rm' (.ref b :: [v1, v2, v3]) M (hpV pi)) (hl : Cond.methodLink own index y ∈ hTbl) (hb : M b = some (w, .inr (ci, fs))) (hc : vwCl[ci]? = some (y.cls, T, N)) (hR : rm'.frames + 1 ≤ rm.frames ∧ 8 + (maxL + 11) + rm'.locals ≤ rm.locals) (hsum : (st.map fun v => v.category).sum ≤ 8) (hsz : L.length = nL) (d : decode cc pc = .ok (.invokevirtual index, 3)) (hcs : n + rm'.cells ≤ rm.cells ∧ z + rm'.slots ≤ rm.slots) (hq : pc + 3 = q) (kk : ∀ M1 : hM, pi M1 → hG Γ k A Q M1 (n + rm'.cells) (z + rm'.slots) q L st) : hG Γ k A Q M n z pc L (v3 :: v2 :: v1 :: .ref b :: st) := by
  refine gx_callV (As := [v1, v2, v3]) C Y hm hl hb hc hR hsum hsz hcs d rfl hq (fun r M1 hp => by
    obtain ⟨rfl, hx⟩ := hp
    exact kk M1 hx)
theorem g_callV4P {q : Nat} {e : Int32} {b ci N : Nat} {T : u_T} {w : Bool} {fs : List Value} {v1 v2 v3 v4 : Value} (C : hC Γ l k own nm cc nL ret rm A) (Y : hYV y bytes maxL rt 4) (hm : hMet Γ l y bytes maxL rt rm' (.ref b :: [v1, v2, v3, v4]) M (hpP M e)) (hl : Cond.methodLink own index y ∈ hTbl) (hb : M b = some (w, .inr (ci, fs))) (hc : vwCl[ci]? = some (y.cls, T, N)) (hR : rm'.frames + 1 ≤ rm.frames ∧ 8 + (maxL + 11) + rm'.locals ≤ rm.locals) (hsum : (st.map fun v => v.category).sum ≤ 8) (hsz : L.length = nL) (d : decode cc pc = .ok (.invokevirtual index, 3)) (h0 : rm'.cells = 0 ∧ rm'.slots = 0) (hcs : n ≤ rm.cells ∧ z ≤ rm.slots) (hq : pc + 3 = q) (kk : hG Γ k A Q M n z q L (.int e :: st)) : hG Γ k A Q M n z pc L (v4 :: v3 :: v2 :: v1 :: .ref b :: st) := by
  refine gx_callV (As := [v1, v2, v3, v4]) C Y hm hl hb hc hR hsum hsz (by rw [h0.1, h0.2]; exact hcs) d rfl hq (fun r M1 hp => by
    obtain ⟨x, rfl, rfl, rfl⟩ := hp
    exact (by rw [h0.1, h0.2]; exact kk))
theorem g_callV4O {q : Nat} {e : Option Nat} {b ci N : Nat} {T : u_T} {w : Bool} {fs : List Value} {v1 v2 v3 v4 : Value} (C : hC Γ l k own nm cc nL ret rm A) (Y : hYV y bytes maxL rt 4) (hm : hMet Γ l y bytes maxL rt rm' (.ref b :: [v1, v2, v3, v4]) M (hpO M e)) (hl : Cond.methodLink own index y ∈ hTbl) (hb : M b = some (w, .inr (ci, fs))) (hc : vwCl[ci]? = some (y.cls, T, N)) (hR : rm'.frames + 1 ≤ rm.frames ∧ 8 + (maxL + 11) + rm'.locals ≤ rm.locals) (hsum : (st.map fun v => v.category).sum ≤ 8) (hsz : L.length = nL) (d : decode cc pc = .ok (.invokevirtual index, 3)) (h0 : rm'.cells = 0 ∧ rm'.slots = 0) (hcs : n ≤ rm.cells ∧ z ≤ rm.slots) (hq : pc + 3 = q) (kk : hG Γ k A Q M n z q L (va_rf e :: st)) : hG Γ k A Q M n z pc L (v4 :: v3 :: v2 :: v1 :: .ref b :: st) := by
  refine gx_callV (As := [v1, v2, v3, v4]) C Y hm hl hb hc hR hsum hsz (by rw [h0.1, h0.2]; exact hcs) d rfl hq (fun r M1 hp => by
    obtain ⟨x, rfl, rfl, rfl⟩ := hp
    exact (by rw [h0.1, h0.2]; exact kk))
theorem g_callV4I {q : Nat} {pi : Int32 → hM → Prop} {b ci N : Nat} {T : u_T} {w : Bool} {fs : List Value} {v1 v2 v3 v4 : Value} (C : hC Γ l k own nm cc nL ret rm A) (Y : hYV y bytes maxL rt 4) (hm : hMet Γ l y bytes maxL rt rm' (.ref b :: [v1, v2, v3, v4]) M (hpI pi)) (hl : Cond.methodLink own index y ∈ hTbl) (hb : M b = some (w, .inr (ci, fs))) (hc : vwCl[ci]? = some (y.cls, T, N)) (hR : rm'.frames + 1 ≤ rm.frames ∧ 8 + (maxL + 11) + rm'.locals ≤ rm.locals) (hsum : (st.map fun v => v.category).sum ≤ 8) (hsz : L.length = nL) (d : decode cc pc = .ok (.invokevirtual index, 3)) (h0 : rm'.cells = 0 ∧ rm'.slots = 0) (hcs : n ≤ rm.cells ∧ z ≤ rm.slots) (hq : pc + 3 = q) (kk : ∀ (x : Int32) (M1 : hM), pi x M1 → hG Γ k A Q M1 n z q L (.int x :: st)) : hG Γ k A Q M n z pc L (v4 :: v3 :: v2 :: v1 :: .ref b :: st) := by
  refine gx_callV (As := [v1, v2, v3, v4]) C Y hm hl hb hc hR hsum hsz (by rw [h0.1, h0.2]; exact hcs) d rfl hq (fun r M1 hp => by
    obtain ⟨x, rfl, hx⟩ := hp
    exact (by rw [h0.1, h0.2]; exact kk x M1 hx))
theorem g_callV4Im {q : Nat} {pi : Int32 → hM → Prop} {b ci N : Nat} {T : u_T} {w : Bool} {fs : List Value} {v1 v2 v3 v4 : Value} (C : hC Γ l k own nm cc nL ret rm A) (Y : hYV y bytes maxL rt 4) (hm : hMet Γ l y bytes maxL rt rm' (.ref b :: [v1, v2, v3, v4]) M (hpI pi)) (hl : Cond.methodLink own index y ∈ hTbl) (hb : M b = some (w, .inr (ci, fs))) (hc : vwCl[ci]? = some (y.cls, T, N)) (hR : rm'.frames + 1 ≤ rm.frames ∧ 8 + (maxL + 11) + rm'.locals ≤ rm.locals) (hsum : (st.map fun v => v.category).sum ≤ 8) (hsz : L.length = nL) (d : decode cc pc = .ok (.invokevirtual index, 3)) (hcs : n + rm'.cells ≤ rm.cells ∧ z + rm'.slots ≤ rm.slots) (hq : pc + 3 = q) (kk : ∀ (x : Int32) (M1 : hM), pi x M1 → hG Γ k A Q M1 (n + rm'.cells) (z + rm'.slots) q L (.int x :: st)) : hG Γ k A Q M n z pc L (v4 :: v3 :: v2 :: v1 :: .ref b :: st) := by
  refine gx_callV (As := [v1, v2, v3, v4]) C Y hm hl hb hc hR hsum hsz hcs d rfl hq (fun r M1 hp => by
    obtain ⟨x, rfl, hx⟩ := hp
    exact kk x M1 hx)
theorem g_callV4L {q : Nat} {pi : Int64 → hM → Prop} {b ci N : Nat} {T : u_T} {w : Bool} {fs : List Value} {v1 v2 v3 v4 : Value} (C : hC Γ l k own nm cc nL ret rm A) (Y : hYV y bytes maxL rt 4) (hm : hMet Γ l y bytes maxL rt rm' (.ref b :: [v1, v2, v3, v4]) M (hpL pi)) (hl : Cond.methodLink own index y ∈ hTbl) (hb : M b = some (w, .inr (ci, fs))) (hc : vwCl[ci]? = some (y.cls, T, N)) (hR : rm'.frames + 1 ≤ rm.frames ∧ 8 + (maxL + 11) + rm'.locals ≤ rm.locals) (hsum : (st.map fun v => v.category).sum ≤ 8) (hsz : L.length = nL) (d : decode cc pc = .ok (.invokevirtual index, 3)) (h0 : rm'.cells = 0 ∧ rm'.slots = 0) (hcs : n ≤ rm.cells ∧ z ≤ rm.slots) (hq : pc + 3 = q) (kk : ∀ (x : Int64) (M1 : hM), pi x M1 → hG Γ k A Q M1 n z q L (.long x :: st)) : hG Γ k A Q M n z pc L (v4 :: v3 :: v2 :: v1 :: .ref b :: st) := by
  refine gx_callV (As := [v1, v2, v3, v4]) C Y hm hl hb hc hR hsum hsz (by rw [h0.1, h0.2]; exact hcs) d rfl hq (fun r M1 hp => by
    obtain ⟨x, rfl, hx⟩ := hp
    exact (by rw [h0.1, h0.2]; exact kk x M1 hx))
theorem g_callV4Q {q : Nat} {pi : Option Nat → hM → Prop} {b ci N : Nat} {T : u_T} {w : Bool} {fs : List Value} {v1 v2 v3 v4 : Value} (C : hC Γ l k own nm cc nL ret rm A) (Y : hYV y bytes maxL rt 4) (hm : hMet Γ l y bytes maxL rt rm' (.ref b :: [v1, v2, v3, v4]) M (hpQ pi)) (hl : Cond.methodLink own index y ∈ hTbl) (hb : M b = some (w, .inr (ci, fs))) (hc : vwCl[ci]? = some (y.cls, T, N)) (hR : rm'.frames + 1 ≤ rm.frames ∧ 8 + (maxL + 11) + rm'.locals ≤ rm.locals) (hsum : (st.map fun v => v.category).sum ≤ 8) (hsz : L.length = nL) (d : decode cc pc = .ok (.invokevirtual index, 3)) (h0 : rm'.cells = 0 ∧ rm'.slots = 0) (hcs : n ≤ rm.cells ∧ z ≤ rm.slots) (hq : pc + 3 = q) (kk : ∀ (x : Option Nat) (M1 : hM), pi x M1 → hG Γ k A Q M1 n z q L (va_rf x :: st)) : hG Γ k A Q M n z pc L (v4 :: v3 :: v2 :: v1 :: .ref b :: st) := by
  refine gx_callV (As := [v1, v2, v3, v4]) C Y hm hl hb hc hR hsum hsz (by rw [h0.1, h0.2]; exact hcs) d rfl hq (fun r M1 hp => by
    obtain ⟨x, rfl, hx⟩ := hp
    exact (by rw [h0.1, h0.2]; exact kk x M1 hx))
theorem g_callV4Qm {q : Nat} {pi : Option Nat → hM → Prop} {b ci N : Nat} {T : u_T} {w : Bool} {fs : List Value} {v1 v2 v3 v4 : Value} (C : hC Γ l k own nm cc nL ret rm A) (Y : hYV y bytes maxL rt 4) (hm : hMet Γ l y bytes maxL rt rm' (.ref b :: [v1, v2, v3, v4]) M (hpQ pi)) (hl : Cond.methodLink own index y ∈ hTbl) (hb : M b = some (w, .inr (ci, fs))) (hc : vwCl[ci]? = some (y.cls, T, N)) (hR : rm'.frames + 1 ≤ rm.frames ∧ 8 + (maxL + 11) + rm'.locals ≤ rm.locals) (hsum : (st.map fun v => v.category).sum ≤ 8) (hsz : L.length = nL) (d : decode cc pc = .ok (.invokevirtual index, 3)) (hcs : n + rm'.cells ≤ rm.cells ∧ z + rm'.slots ≤ rm.slots) (hq : pc + 3 = q) (kk : ∀ (x : Option Nat) (M1 : hM), pi x M1 → hG Γ k A Q M1 (n + rm'.cells) (z + rm'.slots) q L (va_rf x :: st)) : hG Γ k A Q M n z pc L (v4 :: v3 :: v2 :: v1 :: .ref b :: st) := by
  refine gx_callV (As := [v1, v2, v3, v4]) C Y hm hl hb hc hR hsum hsz hcs d rfl hq (fun r M1 hp => by
    obtain ⟨x, rfl, hx⟩ := hp
    exact kk x M1 hx)
theorem g_callV4V {q : Nat} {pi : hM → Prop} {b ci N : Nat} {T : u_T} {w : Bool} {fs : List Value} {v1 v2 v3 v4 : Value} (C : hC Γ l k own nm cc nL ret rm A) (Y : hYV y bytes maxL rt 4) (hm : hMet Γ l y bytes maxL rt rm' (.ref b :: [v1, v2, v3, v4]) M (hpV pi)) (hl : Cond.methodLink own index y ∈ hTbl) (hb : M b = some (w, .inr (ci, fs))) (hc : vwCl[ci]? = some (y.cls, T, N)) (hR : rm'.frames + 1 ≤ rm.frames ∧ 8 + (maxL + 11) + rm'.locals ≤ rm.locals) (hsum : (st.map fun v => v.category).sum ≤ 8) (hsz : L.length = nL) (d : decode cc pc = .ok (.invokevirtual index, 3)) (h0 : rm'.cells = 0 ∧ rm'.slots = 0) (hcs : n ≤ rm.cells ∧ z ≤ rm.slots) (hq : pc + 3 = q) (kk : ∀ M1 : hM, pi M1 → hG Γ k A Q M1 n z q L st) : hG Γ k A Q M n z pc L (v4 :: v3 :: v2 :: v1 :: .ref b :: st) := by
  refine gx_callV (As := [v1, v2, v3, v4]) C Y hm hl hb hc hR hsum hsz (by rw [h0.1, h0.2]; exact hcs) d rfl hq (fun r M1 hp => by
    obtain ⟨rfl, hx⟩ := hp
    exact (by rw [h0.1, h0.2]; exact kk M1 hx))
theorem g_callV4Vm {q : Nat} {pi : hM → Prop} {b ci N : Nat} {T : u_T} {w : Bool} {fs : List Value} {v1 v2 v3 v4 : Value} (C : hC Γ l k own nm cc nL ret rm A) (Y : hYV y bytes maxL rt 4) (hm : hMet Γ l y bytes maxL rt rm' (.ref b :: [v1, v2, v3, v4]) M (hpV pi)) (hl : Cond.methodLink own index y ∈ hTbl) (hb : M b = some (w, .inr (ci, fs))) (hc : vwCl[ci]? = some (y.cls, T, N)) (hR : rm'.frames + 1 ≤ rm.frames ∧ 8 + (maxL + 11) + rm'.locals ≤ rm.locals) (hsum : (st.map fun v => v.category).sum ≤ 8) (hsz : L.length = nL) (d : decode cc pc = .ok (.invokevirtual index, 3)) (hcs : n + rm'.cells ≤ rm.cells ∧ z + rm'.slots ≤ rm.slots) (hq : pc + 3 = q) (kk : ∀ M1 : hM, pi M1 → hG Γ k A Q M1 (n + rm'.cells) (z + rm'.slots) q L st) : hG Γ k A Q M n z pc L (v4 :: v3 :: v2 :: v1 :: .ref b :: st) := by
  refine gx_callV (As := [v1, v2, v3, v4]) C Y hm hl hb hc hR hsum hsz hcs d rfl hq (fun r M1 hp => by
    obtain ⟨rfl, hx⟩ := hp
    exact kk M1 hx)
theorem g_callS0P {q : Nat} {e : Int32} (C : hC Γ l k own nm cc nL ret rm A) (Y : hYS y bytes maxL rt 0) (hm : hMet Γ l y bytes maxL rt rm' ([]) M (hpP M e)) (hl : Cond.methodLink own index y ∈ hTbl) (hR : rm'.frames + 1 ≤ rm.frames ∧ 8 + (maxL + 11) + rm'.locals ≤ rm.locals) (hsum : (st.map fun v => v.category).sum ≤ 8) (hsz : L.length = nL) (d : decode cc pc = .ok (.invokestatic index, 3)) (h0 : rm'.cells = 0 ∧ rm'.slots = 0) (hcs : n ≤ rm.cells ∧ z ≤ rm.slots) (hq : pc + 3 = q) (kk : hG Γ k A Q M n z q L (.int e :: st)) : hG Γ k A Q M n z pc L (st) := by
  refine gx_callS (As := []) C Y hm hl hR hsum hsz (by rw [h0.1, h0.2]; exact hcs) d rfl hq (fun r M1 hp => by
    obtain ⟨x, rfl, rfl, rfl⟩ := hp
    exact (by rw [h0.1, h0.2]; exact kk))
theorem g_callS0O {q : Nat} {e : Option Nat} (C : hC Γ l k own nm cc nL ret rm A) (Y : hYS y bytes maxL rt 0) (hm : hMet Γ l y bytes maxL rt rm' ([]) M (hpO M e)) (hl : Cond.methodLink own index y ∈ hTbl) (hR : rm'.frames + 1 ≤ rm.frames ∧ 8 + (maxL + 11) + rm'.locals ≤ rm.locals) (hsum : (st.map fun v => v.category).sum ≤ 8) (hsz : L.length = nL) (d : decode cc pc = .ok (.invokestatic index, 3)) (h0 : rm'.cells = 0 ∧ rm'.slots = 0) (hcs : n ≤ rm.cells ∧ z ≤ rm.slots) (hq : pc + 3 = q) (kk : hG Γ k A Q M n z q L (va_rf e :: st)) : hG Γ k A Q M n z pc L (st) := by
  refine gx_callS (As := []) C Y hm hl hR hsum hsz (by rw [h0.1, h0.2]; exact hcs) d rfl hq (fun r M1 hp => by
    obtain ⟨x, rfl, rfl, rfl⟩ := hp
    exact (by rw [h0.1, h0.2]; exact kk))
theorem g_callS0I {q : Nat} {pi : Int32 → hM → Prop} (C : hC Γ l k own nm cc nL ret rm A) (Y : hYS y bytes maxL rt 0) (hm : hMet Γ l y bytes maxL rt rm' ([]) M (hpI pi)) (hl : Cond.methodLink own index y ∈ hTbl) (hR : rm'.frames + 1 ≤ rm.frames ∧ 8 + (maxL + 11) + rm'.locals ≤ rm.locals) (hsum : (st.map fun v => v.category).sum ≤ 8) (hsz : L.length = nL) (d : decode cc pc = .ok (.invokestatic index, 3)) (h0 : rm'.cells = 0 ∧ rm'.slots = 0) (hcs : n ≤ rm.cells ∧ z ≤ rm.slots) (hq : pc + 3 = q) (kk : ∀ (x : Int32) (M1 : hM), pi x M1 → hG Γ k A Q M1 n z q L (.int x :: st)) : hG Γ k A Q M n z pc L (st) := by
  refine gx_callS (As := []) C Y hm hl hR hsum hsz (by rw [h0.1, h0.2]; exact hcs) d rfl hq (fun r M1 hp => by
    obtain ⟨x, rfl, hx⟩ := hp
    exact (by rw [h0.1, h0.2]; exact kk x M1 hx))
theorem g_callS0Im {q : Nat} {pi : Int32 → hM → Prop} (C : hC Γ l k own nm cc nL ret rm A) (Y : hYS y bytes maxL rt 0) (hm : hMet Γ l y bytes maxL rt rm' ([]) M (hpI pi)) (hl : Cond.methodLink own index y ∈ hTbl) (hR : rm'.frames + 1 ≤ rm.frames ∧ 8 + (maxL + 11) + rm'.locals ≤ rm.locals) (hsum : (st.map fun v => v.category).sum ≤ 8) (hsz : L.length = nL) (d : decode cc pc = .ok (.invokestatic index, 3)) (hcs : n + rm'.cells ≤ rm.cells ∧ z + rm'.slots ≤ rm.slots) (hq : pc + 3 = q) (kk : ∀ (x : Int32) (M1 : hM), pi x M1 → hG Γ k A Q M1 (n + rm'.cells) (z + rm'.slots) q L (.int x :: st)) : hG Γ k A Q M n z pc L (st) := by
  refine gx_callS (As := []) C Y hm hl hR hsum hsz hcs d rfl hq (fun r M1 hp => by
    obtain ⟨x, rfl, hx⟩ := hp
    exact kk x M1 hx)
theorem g_callS0L {q : Nat} {pi : Int64 → hM → Prop} (C : hC Γ l k own nm cc nL ret rm A) (Y : hYS y bytes maxL rt 0) (hm : hMet Γ l y bytes maxL rt rm' ([]) M (hpL pi)) (hl : Cond.methodLink own index y ∈ hTbl) (hR : rm'.frames + 1 ≤ rm.frames ∧ 8 + (maxL + 11) + rm'.locals ≤ rm.locals) (hsum : (st.map fun v => v.category).sum ≤ 8) (hsz : L.length = nL) (d : decode cc pc = .ok (.invokestatic index, 3)) (h0 : rm'.cells = 0 ∧ rm'.slots = 0) (hcs : n ≤ rm.cells ∧ z ≤ rm.slots) (hq : pc + 3 = q) (kk : ∀ (x : Int64) (M1 : hM), pi x M1 → hG Γ k A Q M1 n z q L (.long x :: st)) : hG Γ k A Q M n z pc L (st) := by
  refine gx_callS (As := []) C Y hm hl hR hsum hsz (by rw [h0.1, h0.2]; exact hcs) d rfl hq (fun r M1 hp => by
    obtain ⟨x, rfl, hx⟩ := hp
    exact (by rw [h0.1, h0.2]; exact kk x M1 hx))
theorem g_callS0Q {q : Nat} {pi : Option Nat → hM → Prop} (C : hC Γ l k own nm cc nL ret rm A) (Y : hYS y bytes maxL rt 0) (hm : hMet Γ l y bytes maxL rt rm' ([]) M (hpQ pi)) (hl : Cond.methodLink own index y ∈ hTbl) (hR : rm'.frames + 1 ≤ rm.frames ∧ 8 + (maxL + 11) + rm'.locals ≤ rm.locals) (hsum : (st.map fun v => v.category).sum ≤ 8) (hsz : L.length = nL) (d : decode cc pc = .ok (.invokestatic index, 3)) (h0 : rm'.cells = 0 ∧ rm'.slots = 0) (hcs : n ≤ rm.cells ∧ z ≤ rm.slots) (hq : pc + 3 = q) (kk : ∀ (x : Option Nat) (M1 : hM), pi x M1 → hG Γ k A Q M1 n z q L (va_rf x :: st)) : hG Γ k A Q M n z pc L (st) := by
  refine gx_callS (As := []) C Y hm hl hR hsum hsz (by rw [h0.1, h0.2]; exact hcs) d rfl hq (fun r M1 hp => by
    obtain ⟨x, rfl, hx⟩ := hp
    exact (by rw [h0.1, h0.2]; exact kk x M1 hx))
theorem g_callS0Qm {q : Nat} {pi : Option Nat → hM → Prop} (C : hC Γ l k own nm cc nL ret rm A) (Y : hYS y bytes maxL rt 0) (hm : hMet Γ l y bytes maxL rt rm' ([]) M (hpQ pi)) (hl : Cond.methodLink own index y ∈ hTbl) (hR : rm'.frames + 1 ≤ rm.frames ∧ 8 + (maxL + 11) + rm'.locals ≤ rm.locals) (hsum : (st.map fun v => v.category).sum ≤ 8) (hsz : L.length = nL) (d : decode cc pc = .ok (.invokestatic index, 3)) (hcs : n + rm'.cells ≤ rm.cells ∧ z + rm'.slots ≤ rm.slots) (hq : pc + 3 = q) (kk : ∀ (x : Option Nat) (M1 : hM), pi x M1 → hG Γ k A Q M1 (n + rm'.cells) (z + rm'.slots) q L (va_rf x :: st)) : hG Γ k A Q M n z pc L (st) := by
  refine gx_callS (As := []) C Y hm hl hR hsum hsz hcs d rfl hq (fun r M1 hp => by
    obtain ⟨x, rfl, hx⟩ := hp
    exact kk x M1 hx)
theorem g_callS0V {q : Nat} {pi : hM → Prop} (C : hC Γ l k own nm cc nL ret rm A) (Y : hYS y bytes maxL rt 0) (hm : hMet Γ l y bytes maxL rt rm' ([]) M (hpV pi)) (hl : Cond.methodLink own index y ∈ hTbl) (hR : rm'.frames + 1 ≤ rm.frames ∧ 8 + (maxL + 11) + rm'.locals ≤ rm.locals) (hsum : (st.map fun v => v.category).sum ≤ 8) (hsz : L.length = nL) (d : decode cc pc = .ok (.invokestatic index, 3)) (h0 : rm'.cells = 0 ∧ rm'.slots = 0) (hcs : n ≤ rm.cells ∧ z ≤ rm.slots) (hq : pc + 3 = q) (kk : ∀ M1 : hM, pi M1 → hG Γ k A Q M1 n z q L st) : hG Γ k A Q M n z pc L (st) := by
  refine gx_callS (As := []) C Y hm hl hR hsum hsz (by rw [h0.1, h0.2]; exact hcs) d rfl hq (fun r M1 hp => by
    obtain ⟨rfl, hx⟩ := hp
    exact (by rw [h0.1, h0.2]; exact kk M1 hx))
theorem g_callS0Vm {q : Nat} {pi : hM → Prop} (C : hC Γ l k own nm cc nL ret rm A) (Y : hYS y bytes maxL rt 0) (hm : hMet Γ l y bytes maxL rt rm' ([]) M (hpV pi)) (hl : Cond.methodLink own index y ∈ hTbl) (hR : rm'.frames + 1 ≤ rm.frames ∧ 8 + (maxL + 11) + rm'.locals ≤ rm.locals) (hsum : (st.map fun v => v.category).sum ≤ 8) (hsz : L.length = nL) (d : decode cc pc = .ok (.invokestatic index, 3)) (hcs : n + rm'.cells ≤ rm.cells ∧ z + rm'.slots ≤ rm.slots) (hq : pc + 3 = q) (kk : ∀ M1 : hM, pi M1 → hG Γ k A Q M1 (n + rm'.cells) (z + rm'.slots) q L st) : hG Γ k A Q M n z pc L (st) := by
  refine gx_callS (As := []) C Y hm hl hR hsum hsz hcs d rfl hq (fun r M1 hp => by
    obtain ⟨rfl, hx⟩ := hp
    exact kk M1 hx)
theorem g_callS1P {q : Nat} {e : Int32} {v1 : Value} (C : hC Γ l k own nm cc nL ret rm A) (Y : hYS y bytes maxL rt 1) (hm : hMet Γ l y bytes maxL rt rm' ([v1]) M (hpP M e)) (hl : Cond.methodLink own index y ∈ hTbl) (hR : rm'.frames + 1 ≤ rm.frames ∧ 8 + (maxL + 11) + rm'.locals ≤ rm.locals) (hsum : (st.map fun v => v.category).sum ≤ 8) (hsz : L.length = nL) (d : decode cc pc = .ok (.invokestatic index, 3)) (h0 : rm'.cells = 0 ∧ rm'.slots = 0) (hcs : n ≤ rm.cells ∧ z ≤ rm.slots) (hq : pc + 3 = q) (kk : hG Γ k A Q M n z q L (.int e :: st)) : hG Γ k A Q M n z pc L (v1 :: st) := by
  refine gx_callS (As := [v1]) C Y hm hl hR hsum hsz (by rw [h0.1, h0.2]; exact hcs) d rfl hq (fun r M1 hp => by
    obtain ⟨x, rfl, rfl, rfl⟩ := hp
    exact (by rw [h0.1, h0.2]; exact kk))
theorem g_callS1O {q : Nat} {e : Option Nat} {v1 : Value} (C : hC Γ l k own nm cc nL ret rm A) (Y : hYS y bytes maxL rt 1) (hm : hMet Γ l y bytes maxL rt rm' ([v1]) M (hpO M e)) (hl : Cond.methodLink own index y ∈ hTbl) (hR : rm'.frames + 1 ≤ rm.frames ∧ 8 + (maxL + 11) + rm'.locals ≤ rm.locals) (hsum : (st.map fun v => v.category).sum ≤ 8) (hsz : L.length = nL) (d : decode cc pc = .ok (.invokestatic index, 3)) (h0 : rm'.cells = 0 ∧ rm'.slots = 0) (hcs : n ≤ rm.cells ∧ z ≤ rm.slots) (hq : pc + 3 = q) (kk : hG Γ k A Q M n z q L (va_rf e :: st)) : hG Γ k A Q M n z pc L (v1 :: st) := by
  refine gx_callS (As := [v1]) C Y hm hl hR hsum hsz (by rw [h0.1, h0.2]; exact hcs) d rfl hq (fun r M1 hp => by
    obtain ⟨x, rfl, rfl, rfl⟩ := hp
    exact (by rw [h0.1, h0.2]; exact kk))
theorem g_callS1I {q : Nat} {pi : Int32 → hM → Prop} {v1 : Value} (C : hC Γ l k own nm cc nL ret rm A) (Y : hYS y bytes maxL rt 1) (hm : hMet Γ l y bytes maxL rt rm' ([v1]) M (hpI pi)) (hl : Cond.methodLink own index y ∈ hTbl) (hR : rm'.frames + 1 ≤ rm.frames ∧ 8 + (maxL + 11) + rm'.locals ≤ rm.locals) (hsum : (st.map fun v => v.category).sum ≤ 8) (hsz : L.length = nL) (d : decode cc pc = .ok (.invokestatic index, 3)) (h0 : rm'.cells = 0 ∧ rm'.slots = 0) (hcs : n ≤ rm.cells ∧ z ≤ rm.slots) (hq : pc + 3 = q) (kk : ∀ (x : Int32) (M1 : hM), pi x M1 → hG Γ k A Q M1 n z q L (.int x :: st)) : hG Γ k A Q M n z pc L (v1 :: st) := by
  refine gx_callS (As := [v1]) C Y hm hl hR hsum hsz (by rw [h0.1, h0.2]; exact hcs) d rfl hq (fun r M1 hp => by
    obtain ⟨x, rfl, hx⟩ := hp
    exact (by rw [h0.1, h0.2]; exact kk x M1 hx))
theorem g_callS1Im {q : Nat} {pi : Int32 → hM → Prop} {v1 : Value} (C : hC Γ l k own nm cc nL ret rm A) (Y : hYS y bytes maxL rt 1) (hm : hMet Γ l y bytes maxL rt rm' ([v1]) M (hpI pi)) (hl : Cond.methodLink own index y ∈ hTbl) (hR : rm'.frames + 1 ≤ rm.frames ∧ 8 + (maxL + 11) + rm'.locals ≤ rm.locals) (hsum : (st.map fun v => v.category).sum ≤ 8) (hsz : L.length = nL) (d : decode cc pc = .ok (.invokestatic index, 3)) (hcs : n + rm'.cells ≤ rm.cells ∧ z + rm'.slots ≤ rm.slots) (hq : pc + 3 = q) (kk : ∀ (x : Int32) (M1 : hM), pi x M1 → hG Γ k A Q M1 (n + rm'.cells) (z + rm'.slots) q L (.int x :: st)) : hG Γ k A Q M n z pc L (v1 :: st) := by
  refine gx_callS (As := [v1]) C Y hm hl hR hsum hsz hcs d rfl hq (fun r M1 hp => by
    obtain ⟨x, rfl, hx⟩ := hp
    exact kk x M1 hx)
theorem g_callS1L {q : Nat} {pi : Int64 → hM → Prop} {v1 : Value} (C : hC Γ l k own nm cc nL ret rm A) (Y : hYS y bytes maxL rt 1) (hm : hMet Γ l y bytes maxL rt rm' ([v1]) M (hpL pi)) (hl : Cond.methodLink own index y ∈ hTbl) (hR : rm'.frames + 1 ≤ rm.frames ∧ 8 + (maxL + 11) + rm'.locals ≤ rm.locals) (hsum : (st.map fun v => v.category).sum ≤ 8) (hsz : L.length = nL) (d : decode cc pc = .ok (.invokestatic index, 3)) (h0 : rm'.cells = 0 ∧ rm'.slots = 0) (hcs : n ≤ rm.cells ∧ z ≤ rm.slots) (hq : pc + 3 = q) (kk : ∀ (x : Int64) (M1 : hM), pi x M1 → hG Γ k A Q M1 n z q L (.long x :: st)) : hG Γ k A Q M n z pc L (v1 :: st) := by
  refine gx_callS (As := [v1]) C Y hm hl hR hsum hsz (by rw [h0.1, h0.2]; exact hcs) d rfl hq (fun r M1 hp => by
    obtain ⟨x, rfl, hx⟩ := hp
    exact (by rw [h0.1, h0.2]; exact kk x M1 hx))
theorem g_callS1Q {q : Nat} {pi : Option Nat → hM → Prop} {v1 : Value} (C : hC Γ l k own nm cc nL ret rm A) (Y : hYS y bytes maxL rt 1) (hm : hMet Γ l y bytes maxL rt rm' ([v1]) M (hpQ pi)) (hl : Cond.methodLink own index y ∈ hTbl) (hR : rm'.frames + 1 ≤ rm.frames ∧ 8 + (maxL + 11) + rm'.locals ≤ rm.locals) (hsum : (st.map fun v => v.category).sum ≤ 8) (hsz : L.length = nL) (d : decode cc pc = .ok (.invokestatic index, 3)) (h0 : rm'.cells = 0 ∧ rm'.slots = 0) (hcs : n ≤ rm.cells ∧ z ≤ rm.slots) (hq : pc + 3 = q) (kk : ∀ (x : Option Nat) (M1 : hM), pi x M1 → hG Γ k A Q M1 n z q L (va_rf x :: st)) : hG Γ k A Q M n z pc L (v1 :: st) := by
  refine gx_callS (As := [v1]) C Y hm hl hR hsum hsz (by rw [h0.1, h0.2]; exact hcs) d rfl hq (fun r M1 hp => by
    obtain ⟨x, rfl, hx⟩ := hp
    exact (by rw [h0.1, h0.2]; exact kk x M1 hx))
theorem g_callS1Qm {q : Nat} {pi : Option Nat → hM → Prop} {v1 : Value} (C : hC Γ l k own nm cc nL ret rm A) (Y : hYS y bytes maxL rt 1) (hm : hMet Γ l y bytes maxL rt rm' ([v1]) M (hpQ pi)) (hl : Cond.methodLink own index y ∈ hTbl) (hR : rm'.frames + 1 ≤ rm.frames ∧ 8 + (maxL + 11) + rm'.locals ≤ rm.locals) (hsum : (st.map fun v => v.category).sum ≤ 8) (hsz : L.length = nL) (d : decode cc pc = .ok (.invokestatic index, 3)) (hcs : n + rm'.cells ≤ rm.cells ∧ z + rm'.slots ≤ rm.slots) (hq : pc + 3 = q) (kk : ∀ (x : Option Nat) (M1 : hM), pi x M1 → hG Γ k A Q M1 (n + rm'.cells) (z + rm'.slots) q L (va_rf x :: st)) : hG Γ k A Q M n z pc L (v1 :: st) := by
  refine gx_callS (As := [v1]) C Y hm hl hR hsum hsz hcs d rfl hq (fun r M1 hp => by
    obtain ⟨x, rfl, hx⟩ := hp
    exact kk x M1 hx)
theorem g_callS1V {q : Nat} {pi : hM → Prop} {v1 : Value} (C : hC Γ l k own nm cc nL ret rm A) (Y : hYS y bytes maxL rt 1) (hm : hMet Γ l y bytes maxL rt rm' ([v1]) M (hpV pi)) (hl : Cond.methodLink own index y ∈ hTbl) (hR : rm'.frames + 1 ≤ rm.frames ∧ 8 + (maxL + 11) + rm'.locals ≤ rm.locals) (hsum : (st.map fun v => v.category).sum ≤ 8) (hsz : L.length = nL) (d : decode cc pc = .ok (.invokestatic index, 3)) (h0 : rm'.cells = 0 ∧ rm'.slots = 0) (hcs : n ≤ rm.cells ∧ z ≤ rm.slots) (hq : pc + 3 = q) (kk : ∀ M1 : hM, pi M1 → hG Γ k A Q M1 n z q L st) : hG Γ k A Q M n z pc L (v1 :: st) := by
  refine gx_callS (As := [v1]) C Y hm hl hR hsum hsz (by rw [h0.1, h0.2]; exact hcs) d rfl hq (fun r M1 hp => by
    obtain ⟨rfl, hx⟩ := hp
    exact (by rw [h0.1, h0.2]; exact kk M1 hx))
theorem g_callS1Vm {q : Nat} {pi : hM → Prop} {v1 : Value} (C : hC Γ l k own nm cc nL ret rm A) (Y : hYS y bytes maxL rt 1) (hm : hMet Γ l y bytes maxL rt rm' ([v1]) M (hpV pi)) (hl : Cond.methodLink own index y ∈ hTbl) (hR : rm'.frames + 1 ≤ rm.frames ∧ 8 + (maxL + 11) + rm'.locals ≤ rm.locals) (hsum : (st.map fun v => v.category).sum ≤ 8) (hsz : L.length = nL) (d : decode cc pc = .ok (.invokestatic index, 3)) (hcs : n + rm'.cells ≤ rm.cells ∧ z + rm'.slots ≤ rm.slots) (hq : pc + 3 = q) (kk : ∀ M1 : hM, pi M1 → hG Γ k A Q M1 (n + rm'.cells) (z + rm'.slots) q L st) : hG Γ k A Q M n z pc L (v1 :: st) := by
  refine gx_callS (As := [v1]) C Y hm hl hR hsum hsz hcs d rfl hq (fun r M1 hp => by
    obtain ⟨rfl, hx⟩ := hp
    exact kk M1 hx)
theorem g_callS2P {q : Nat} {e : Int32} {v1 v2 : Value} (C : hC Γ l k own nm cc nL ret rm A) (Y : hYS y bytes maxL rt 2) (hm : hMet Γ l y bytes maxL rt rm' ([v1, v2]) M (hpP M e)) (hl : Cond.methodLink own index y ∈ hTbl) (hR : rm'.frames + 1 ≤ rm.frames ∧ 8 + (maxL + 11) + rm'.locals ≤ rm.locals) (hsum : (st.map fun v => v.category).sum ≤ 8) (hsz : L.length = nL) (d : decode cc pc = .ok (.invokestatic index, 3)) (h0 : rm'.cells = 0 ∧ rm'.slots = 0) (hcs : n ≤ rm.cells ∧ z ≤ rm.slots) (hq : pc + 3 = q) (kk : hG Γ k A Q M n z q L (.int e :: st)) : hG Γ k A Q M n z pc L (v2 :: v1 :: st) := by
  refine gx_callS (As := [v1, v2]) C Y hm hl hR hsum hsz (by rw [h0.1, h0.2]; exact hcs) d rfl hq (fun r M1 hp => by
    obtain ⟨x, rfl, rfl, rfl⟩ := hp
    exact (by rw [h0.1, h0.2]; exact kk))
theorem g_callS2O {q : Nat} {e : Option Nat} {v1 v2 : Value} (C : hC Γ l k own nm cc nL ret rm A) (Y : hYS y bytes maxL rt 2) (hm : hMet Γ l y bytes maxL rt rm' ([v1, v2]) M (hpO M e)) (hl : Cond.methodLink own index y ∈ hTbl) (hR : rm'.frames + 1 ≤ rm.frames ∧ 8 + (maxL + 11) + rm'.locals ≤ rm.locals) (hsum : (st.map fun v => v.category).sum ≤ 8) (hsz : L.length = nL) (d : decode cc pc = .ok (.invokestatic index, 3)) (h0 : rm'.cells = 0 ∧ rm'.slots = 0) (hcs : n ≤ rm.cells ∧ z ≤ rm.slots) (hq : pc + 3 = q) (kk : hG Γ k A Q M n z q L (va_rf e :: st)) : hG Γ k A Q M n z pc L (v2 :: v1 :: st) := by
  refine gx_callS (As := [v1, v2]) C Y hm hl hR hsum hsz (by rw [h0.1, h0.2]; exact hcs) d rfl hq (fun r M1 hp => by
    obtain ⟨x, rfl, rfl, rfl⟩ := hp
    exact (by rw [h0.1, h0.2]; exact kk))
theorem g_callS2I {q : Nat} {pi : Int32 → hM → Prop} {v1 v2 : Value} (C : hC Γ l k own nm cc nL ret rm A) (Y : hYS y bytes maxL rt 2) (hm : hMet Γ l y bytes maxL rt rm' ([v1, v2]) M (hpI pi)) (hl : Cond.methodLink own index y ∈ hTbl) (hR : rm'.frames + 1 ≤ rm.frames ∧ 8 + (maxL + 11) + rm'.locals ≤ rm.locals) (hsum : (st.map fun v => v.category).sum ≤ 8) (hsz : L.length = nL) (d : decode cc pc = .ok (.invokestatic index, 3)) (h0 : rm'.cells = 0 ∧ rm'.slots = 0) (hcs : n ≤ rm.cells ∧ z ≤ rm.slots) (hq : pc + 3 = q) (kk : ∀ (x : Int32) (M1 : hM), pi x M1 → hG Γ k A Q M1 n z q L (.int x :: st)) : hG Γ k A Q M n z pc L (v2 :: v1 :: st) := by
  refine gx_callS (As := [v1, v2]) C Y hm hl hR hsum hsz (by rw [h0.1, h0.2]; exact hcs) d rfl hq (fun r M1 hp => by
    obtain ⟨x, rfl, hx⟩ := hp
    exact (by rw [h0.1, h0.2]; exact kk x M1 hx))
theorem g_callS2Im {q : Nat} {pi : Int32 → hM → Prop} {v1 v2 : Value} (C : hC Γ l k own nm cc nL ret rm A) (Y : hYS y bytes maxL rt 2) (hm : hMet Γ l y bytes maxL rt rm' ([v1, v2]) M (hpI pi)) (hl : Cond.methodLink own index y ∈ hTbl) (hR : rm'.frames + 1 ≤ rm.frames ∧ 8 + (maxL + 11) + rm'.locals ≤ rm.locals) (hsum : (st.map fun v => v.category).sum ≤ 8) (hsz : L.length = nL) (d : decode cc pc = .ok (.invokestatic index, 3)) (hcs : n + rm'.cells ≤ rm.cells ∧ z + rm'.slots ≤ rm.slots) (hq : pc + 3 = q) (kk : ∀ (x : Int32) (M1 : hM), pi x M1 → hG Γ k A Q M1 (n + rm'.cells) (z + rm'.slots) q L (.int x :: st)) : hG Γ k A Q M n z pc L (v2 :: v1 :: st) := by
  refine gx_callS (As := [v1, v2]) C Y hm hl hR hsum hsz hcs d rfl hq (fun r M1 hp => by
    obtain ⟨x, rfl, hx⟩ := hp
    exact kk x M1 hx)
theorem g_callS2L {q : Nat} {pi : Int64 → hM → Prop} {v1 v2 : Value} (C : hC Γ l k own nm cc nL ret rm A) (Y : hYS y bytes maxL rt 2) (hm : hMet Γ l y bytes maxL rt rm' ([v1, v2]) M (hpL pi)) (hl : Cond.methodLink own index y ∈ hTbl) (hR : rm'.frames + 1 ≤ rm.frames ∧ 8 + (maxL + 11) + rm'.locals ≤ rm.locals) (hsum : (st.map fun v => v.category).sum ≤ 8) (hsz : L.length = nL) (d : decode cc pc = .ok (.invokestatic index, 3)) (h0 : rm'.cells = 0 ∧ rm'.slots = 0) (hcs : n ≤ rm.cells ∧ z ≤ rm.slots) (hq : pc + 3 = q) (kk : ∀ (x : Int64) (M1 : hM), pi x M1 → hG Γ k A Q M1 n z q L (.long x :: st)) : hG Γ k A Q M n z pc L (v2 :: v1 :: st) := by
  refine gx_callS (As := [v1, v2]) C Y hm hl hR hsum hsz (by rw [h0.1, h0.2]; exact hcs) d rfl hq (fun r M1 hp => by
    obtain ⟨x, rfl, hx⟩ := hp
    exact (by rw [h0.1, h0.2]; exact kk x M1 hx))
theorem g_callS2Q {q : Nat} {pi : Option Nat → hM → Prop} {v1 v2 : Value} (C : hC Γ l k own nm cc nL ret rm A) (Y : hYS y bytes maxL rt 2) (hm : hMet Γ l y bytes maxL rt rm' ([v1, v2]) M (hpQ pi)) (hl : Cond.methodLink own index y ∈ hTbl) (hR : rm'.frames + 1 ≤ rm.frames ∧ 8 + (maxL + 11) + rm'.locals ≤ rm.locals) (hsum : (st.map fun v => v.category).sum ≤ 8) (hsz : L.length = nL) (d : decode cc pc = .ok (.invokestatic index, 3)) (h0 : rm'.cells = 0 ∧ rm'.slots = 0) (hcs : n ≤ rm.cells ∧ z ≤ rm.slots) (hq : pc + 3 = q) (kk : ∀ (x : Option Nat) (M1 : hM), pi x M1 → hG Γ k A Q M1 n z q L (va_rf x :: st)) : hG Γ k A Q M n z pc L (v2 :: v1 :: st) := by
  refine gx_callS (As := [v1, v2]) C Y hm hl hR hsum hsz (by rw [h0.1, h0.2]; exact hcs) d rfl hq (fun r M1 hp => by
    obtain ⟨x, rfl, hx⟩ := hp
    exact (by rw [h0.1, h0.2]; exact kk x M1 hx))
theorem g_callS2Qm {q : Nat} {pi : Option Nat → hM → Prop} {v1 v2 : Value} (C : hC Γ l k own nm cc nL ret rm A) (Y : hYS y bytes maxL rt 2) (hm : hMet Γ l y bytes maxL rt rm' ([v1, v2]) M (hpQ pi)) (hl : Cond.methodLink own index y ∈ hTbl) (hR : rm'.frames + 1 ≤ rm.frames ∧ 8 + (maxL + 11) + rm'.locals ≤ rm.locals) (hsum : (st.map fun v => v.category).sum ≤ 8) (hsz : L.length = nL) (d : decode cc pc = .ok (.invokestatic index, 3)) (hcs : n + rm'.cells ≤ rm.cells ∧ z + rm'.slots ≤ rm.slots) (hq : pc + 3 = q) (kk : ∀ (x : Option Nat) (M1 : hM), pi x M1 → hG Γ k A Q M1 (n + rm'.cells) (z + rm'.slots) q L (va_rf x :: st)) : hG Γ k A Q M n z pc L (v2 :: v1 :: st) := by
  refine gx_callS (As := [v1, v2]) C Y hm hl hR hsum hsz hcs d rfl hq (fun r M1 hp => by
    obtain ⟨x, rfl, hx⟩ := hp
    exact kk x M1 hx)
theorem g_callS2V {q : Nat} {pi : hM → Prop} {v1 v2 : Value} (C : hC Γ l k own nm cc nL ret rm A) (Y : hYS y bytes maxL rt 2) (hm : hMet Γ l y bytes maxL rt rm' ([v1, v2]) M (hpV pi)) (hl : Cond.methodLink own index y ∈ hTbl) (hR : rm'.frames + 1 ≤ rm.frames ∧ 8 + (maxL + 11) + rm'.locals ≤ rm.locals) (hsum : (st.map fun v => v.category).sum ≤ 8) (hsz : L.length = nL) (d : decode cc pc = .ok (.invokestatic index, 3)) (h0 : rm'.cells = 0 ∧ rm'.slots = 0) (hcs : n ≤ rm.cells ∧ z ≤ rm.slots) (hq : pc + 3 = q) (kk : ∀ M1 : hM, pi M1 → hG Γ k A Q M1 n z q L st) : hG Γ k A Q M n z pc L (v2 :: v1 :: st) := by
  refine gx_callS (As := [v1, v2]) C Y hm hl hR hsum hsz (by rw [h0.1, h0.2]; exact hcs) d rfl hq (fun r M1 hp => by
    obtain ⟨rfl, hx⟩ := hp
    exact (by rw [h0.1, h0.2]; exact kk M1 hx))
theorem g_callS2Vm {q : Nat} {pi : hM → Prop} {v1 v2 : Value} (C : hC Γ l k own nm cc nL ret rm A) (Y : hYS y bytes maxL rt 2) (hm : hMet Γ l y bytes maxL rt rm' ([v1, v2]) M (hpV pi)) (hl : Cond.methodLink own index y ∈ hTbl) (hR : rm'.frames + 1 ≤ rm.frames ∧ 8 + (maxL + 11) + rm'.locals ≤ rm.locals) (hsum : (st.map fun v => v.category).sum ≤ 8) (hsz : L.length = nL) (d : decode cc pc = .ok (.invokestatic index, 3)) (hcs : n + rm'.cells ≤ rm.cells ∧ z + rm'.slots ≤ rm.slots) (hq : pc + 3 = q) (kk : ∀ M1 : hM, pi M1 → hG Γ k A Q M1 (n + rm'.cells) (z + rm'.slots) q L st) : hG Γ k A Q M n z pc L (v2 :: v1 :: st) := by
  refine gx_callS (As := [v1, v2]) C Y hm hl hR hsum hsz hcs d rfl hq (fun r M1 hp => by
    obtain ⟨rfl, hx⟩ := hp
    exact kk M1 hx)
theorem g_callS3P {q : Nat} {e : Int32} {v1 v2 v3 : Value} (C : hC Γ l k own nm cc nL ret rm A) (Y : hYS y bytes maxL rt 3) (hm : hMet Γ l y bytes maxL rt rm' ([v1, v2, v3]) M (hpP M e)) (hl : Cond.methodLink own index y ∈ hTbl) (hR : rm'.frames + 1 ≤ rm.frames ∧ 8 + (maxL + 11) + rm'.locals ≤ rm.locals) (hsum : (st.map fun v => v.category).sum ≤ 8) (hsz : L.length = nL) (d : decode cc pc = .ok (.invokestatic index, 3)) (h0 : rm'.cells = 0 ∧ rm'.slots = 0) (hcs : n ≤ rm.cells ∧ z ≤ rm.slots) (hq : pc + 3 = q) (kk : hG Γ k A Q M n z q L (.int e :: st)) : hG Γ k A Q M n z pc L (v3 :: v2 :: v1 :: st) := by
  refine gx_callS (As := [v1, v2, v3]) C Y hm hl hR hsum hsz (by rw [h0.1, h0.2]; exact hcs) d rfl hq (fun r M1 hp => by
    obtain ⟨x, rfl, rfl, rfl⟩ := hp
    exact (by rw [h0.1, h0.2]; exact kk))
theorem g_callS3O {q : Nat} {e : Option Nat} {v1 v2 v3 : Value} (C : hC Γ l k own nm cc nL ret rm A) (Y : hYS y bytes maxL rt 3) (hm : hMet Γ l y bytes maxL rt rm' ([v1, v2, v3]) M (hpO M e)) (hl : Cond.methodLink own index y ∈ hTbl) (hR : rm'.frames + 1 ≤ rm.frames ∧ 8 + (maxL + 11) + rm'.locals ≤ rm.locals) (hsum : (st.map fun v => v.category).sum ≤ 8) (hsz : L.length = nL) (d : decode cc pc = .ok (.invokestatic index, 3)) (h0 : rm'.cells = 0 ∧ rm'.slots = 0) (hcs : n ≤ rm.cells ∧ z ≤ rm.slots) (hq : pc + 3 = q) (kk : hG Γ k A Q M n z q L (va_rf e :: st)) : hG Γ k A Q M n z pc L (v3 :: v2 :: v1 :: st) := by
  refine gx_callS (As := [v1, v2, v3]) C Y hm hl hR hsum hsz (by rw [h0.1, h0.2]; exact hcs) d rfl hq (fun r M1 hp => by
    obtain ⟨x, rfl, rfl, rfl⟩ := hp
    exact (by rw [h0.1, h0.2]; exact kk))
theorem g_callS3I {q : Nat} {pi : Int32 → hM → Prop} {v1 v2 v3 : Value} (C : hC Γ l k own nm cc nL ret rm A) (Y : hYS y bytes maxL rt 3) (hm : hMet Γ l y bytes maxL rt rm' ([v1, v2, v3]) M (hpI pi)) (hl : Cond.methodLink own index y ∈ hTbl) (hR : rm'.frames + 1 ≤ rm.frames ∧ 8 + (maxL + 11) + rm'.locals ≤ rm.locals) (hsum : (st.map fun v => v.category).sum ≤ 8) (hsz : L.length = nL) (d : decode cc pc = .ok (.invokestatic index, 3)) (h0 : rm'.cells = 0 ∧ rm'.slots = 0) (hcs : n ≤ rm.cells ∧ z ≤ rm.slots) (hq : pc + 3 = q) (kk : ∀ (x : Int32) (M1 : hM), pi x M1 → hG Γ k A Q M1 n z q L (.int x :: st)) : hG Γ k A Q M n z pc L (v3 :: v2 :: v1 :: st) := by
  refine gx_callS (As := [v1, v2, v3]) C Y hm hl hR hsum hsz (by rw [h0.1, h0.2]; exact hcs) d rfl hq (fun r M1 hp => by
    obtain ⟨x, rfl, hx⟩ := hp
    exact (by rw [h0.1, h0.2]; exact kk x M1 hx))
theorem g_callS3Im {q : Nat} {pi : Int32 → hM → Prop} {v1 v2 v3 : Value} (C : hC Γ l k own nm cc nL ret rm A) (Y : hYS y bytes maxL rt 3) (hm : hMet Γ l y bytes maxL rt rm' ([v1, v2, v3]) M (hpI pi)) (hl : Cond.methodLink own index y ∈ hTbl) (hR : rm'.frames + 1 ≤ rm.frames ∧ 8 + (maxL + 11) + rm'.locals ≤ rm.locals) (hsum : (st.map fun v => v.category).sum ≤ 8) (hsz : L.length = nL) (d : decode cc pc = .ok (.invokestatic index, 3)) (hcs : n + rm'.cells ≤ rm.cells ∧ z + rm'.slots ≤ rm.slots) (hq : pc + 3 = q) (kk : ∀ (x : Int32) (M1 : hM), pi x M1 → hG Γ k A Q M1 (n + rm'.cells) (z + rm'.slots) q L (.int x :: st)) : hG Γ k A Q M n z pc L (v3 :: v2 :: v1 :: st) := by
  refine gx_callS (As := [v1, v2, v3]) C Y hm hl hR hsum hsz hcs d rfl hq (fun r M1 hp => by
    obtain ⟨x, rfl, hx⟩ := hp
    exact kk x M1 hx)
theorem g_callS3L {q : Nat} {pi : Int64 → hM → Prop} {v1 v2 v3 : Value} (C : hC Γ l k own nm cc nL ret rm A) (Y : hYS y bytes maxL rt 3) (hm : hMet Γ l y bytes maxL rt rm' ([v1, v2, v3]) M (hpL pi)) (hl : Cond.methodLink own index y ∈ hTbl) (hR : rm'.frames + 1 ≤ rm.frames ∧ 8 + (maxL + 11) + rm'.locals ≤ rm.locals) (hsum : (st.map fun v => v.category).sum ≤ 8) (hsz : L.length = nL) (d : decode cc pc = .ok (.invokestatic index, 3)) (h0 : rm'.cells = 0 ∧ rm'.slots = 0) (hcs : n ≤ rm.cells ∧ z ≤ rm.slots) (hq : pc + 3 = q) (kk : ∀ (x : Int64) (M1 : hM), pi x M1 → hG Γ k A Q M1 n z q L (.long x :: st)) : hG Γ k A Q M n z pc L (v3 :: v2 :: v1 :: st) := by
  refine gx_callS (As := [v1, v2, v3]) C Y hm hl hR hsum hsz (by rw [h0.1, h0.2]; exact hcs) d rfl hq (fun r M1 hp => by
    obtain ⟨x, rfl, hx⟩ := hp
    exact (by rw [h0.1, h0.2]; exact kk x M1 hx))
theorem g_callS3Q {q : Nat} {pi : Option Nat → hM → Prop} {v1 v2 v3 : Value} (C : hC Γ l k own nm cc nL ret rm A) (Y : hYS y bytes maxL rt 3) (hm : hMet Γ l y bytes maxL rt rm' ([v1, v2, v3]) M (hpQ pi)) (hl : Cond.methodLink own index y ∈ hTbl) (hR : rm'.frames + 1 ≤ rm.frames ∧ 8 + (maxL + 11) + rm'.locals ≤ rm.locals) (hsum : (st.map fun v => v.category).sum ≤ 8) (hsz : L.length = nL) (d : decode cc pc = .ok (.invokestatic index, 3)) (h0 : rm'.cells = 0 ∧ rm'.slots = 0) (hcs : n ≤ rm.cells ∧ z ≤ rm.slots) (hq : pc + 3 = q) (kk : ∀ (x : Option Nat) (M1 : hM), pi x M1 → hG Γ k A Q M1 n z q L (va_rf x :: st)) : hG Γ k A Q M n z pc L (v3 :: v2 :: v1 :: st) := by
  refine gx_callS (As := [v1, v2, v3]) C Y hm hl hR hsum hsz (by rw [h0.1, h0.2]; exact hcs) d rfl hq (fun r M1 hp => by
    obtain ⟨x, rfl, hx⟩ := hp
    exact (by rw [h0.1, h0.2]; exact kk x M1 hx))
theorem g_callS3Qm {q : Nat} {pi : Option Nat → hM → Prop} {v1 v2 v3 : Value} (C : hC Γ l k own nm cc nL ret rm A) (Y : hYS y bytes maxL rt 3) (hm : hMet Γ l y bytes maxL rt rm' ([v1, v2, v3]) M (hpQ pi)) (hl : Cond.methodLink own index y ∈ hTbl) (hR : rm'.frames + 1 ≤ rm.frames ∧ 8 + (maxL + 11) + rm'.locals ≤ rm.locals) (hsum : (st.map fun v => v.category).sum ≤ 8) (hsz : L.length = nL) (d : decode cc pc = .ok (.invokestatic index, 3)) (hcs : n + rm'.cells ≤ rm.cells ∧ z + rm'.slots ≤ rm.slots) (hq : pc + 3 = q) (kk : ∀ (x : Option Nat) (M1 : hM), pi x M1 → hG Γ k A Q M1 (n + rm'.cells) (z + rm'.slots) q L (va_rf x :: st)) : hG Γ k A Q M n z pc L (v3 :: v2 :: v1 :: st) := by
  refine gx_callS (As := [v1, v2, v3]) C Y hm hl hR hsum hsz hcs d rfl hq (fun r M1 hp => by
    obtain ⟨x, rfl, hx⟩ := hp
    exact kk x M1 hx)
theorem g_callS3V {q : Nat} {pi : hM → Prop} {v1 v2 v3 : Value} (C : hC Γ l k own nm cc nL ret rm A) (Y : hYS y bytes maxL rt 3) (hm : hMet Γ l y bytes maxL rt rm' ([v1, v2, v3]) M (hpV pi)) (hl : Cond.methodLink own index y ∈ hTbl) (hR : rm'.frames + 1 ≤ rm.frames ∧ 8 + (maxL + 11) + rm'.locals ≤ rm.locals) (hsum : (st.map fun v => v.category).sum ≤ 8) (hsz : L.length = nL) (d : decode cc pc = .ok (.invokestatic index, 3)) (h0 : rm'.cells = 0 ∧ rm'.slots = 0) (hcs : n ≤ rm.cells ∧ z ≤ rm.slots) (hq : pc + 3 = q) (kk : ∀ M1 : hM, pi M1 → hG Γ k A Q M1 n z q L st) : hG Γ k A Q M n z pc L (v3 :: v2 :: v1 :: st) := by
  refine gx_callS (As := [v1, v2, v3]) C Y hm hl hR hsum hsz (by rw [h0.1, h0.2]; exact hcs) d rfl hq (fun r M1 hp => by
    obtain ⟨rfl, hx⟩ := hp
    exact (by rw [h0.1, h0.2]; exact kk M1 hx))
theorem g_callS3Vm {q : Nat} {pi : hM → Prop} {v1 v2 v3 : Value} (C : hC Γ l k own nm cc nL ret rm A) (Y : hYS y bytes maxL rt 3) (hm : hMet Γ l y bytes maxL rt rm' ([v1, v2, v3]) M (hpV pi)) (hl : Cond.methodLink own index y ∈ hTbl) (hR : rm'.frames + 1 ≤ rm.frames ∧ 8 + (maxL + 11) + rm'.locals ≤ rm.locals) (hsum : (st.map fun v => v.category).sum ≤ 8) (hsz : L.length = nL) (d : decode cc pc = .ok (.invokestatic index, 3)) (hcs : n + rm'.cells ≤ rm.cells ∧ z + rm'.slots ≤ rm.slots) (hq : pc + 3 = q) (kk : ∀ M1 : hM, pi M1 → hG Γ k A Q M1 (n + rm'.cells) (z + rm'.slots) q L st) : hG Γ k A Q M n z pc L (v3 :: v2 :: v1 :: st) := by
  refine gx_callS (As := [v1, v2, v3]) C Y hm hl hR hsum hsz hcs d rfl hq (fun r M1 hp => by
    obtain ⟨rfl, hx⟩ := hp
    exact kk M1 hx)
theorem g_callS4P {q : Nat} {e : Int32} {v1 v2 v3 v4 : Value} (C : hC Γ l k own nm cc nL ret rm A) (Y : hYS y bytes maxL rt 4) (hm : hMet Γ l y bytes maxL rt rm' ([v1, v2, v3, v4]) M (hpP M e)) (hl : Cond.methodLink own index y ∈ hTbl) (hR : rm'.frames + 1 ≤ rm.frames ∧ 8 + (maxL + 11) + rm'.locals ≤ rm.locals) (hsum : (st.map fun v => v.category).sum ≤ 8) (hsz : L.length = nL) (d : decode cc pc = .ok (.invokestatic index, 3)) (h0 : rm'.cells = 0 ∧ rm'.slots = 0) (hcs : n ≤ rm.cells ∧ z ≤ rm.slots) (hq : pc + 3 = q) (kk : hG Γ k A Q M n z q L (.int e :: st)) : hG Γ k A Q M n z pc L (v4 :: v3 :: v2 :: v1 :: st) := by
  refine gx_callS (As := [v1, v2, v3, v4]) C Y hm hl hR hsum hsz (by rw [h0.1, h0.2]; exact hcs) d rfl hq (fun r M1 hp => by
    obtain ⟨x, rfl, rfl, rfl⟩ := hp
    exact (by rw [h0.1, h0.2]; exact kk))
theorem g_callS4O {q : Nat} {e : Option Nat} {v1 v2 v3 v4 : Value} (C : hC Γ l k own nm cc nL ret rm A) (Y : hYS y bytes maxL rt 4) (hm : hMet Γ l y bytes maxL rt rm' ([v1, v2, v3, v4]) M (hpO M e)) (hl : Cond.methodLink own index y ∈ hTbl) (hR : rm'.frames + 1 ≤ rm.frames ∧ 8 + (maxL + 11) + rm'.locals ≤ rm.locals) (hsum : (st.map fun v => v.category).sum ≤ 8) (hsz : L.length = nL) (d : decode cc pc = .ok (.invokestatic index, 3)) (h0 : rm'.cells = 0 ∧ rm'.slots = 0) (hcs : n ≤ rm.cells ∧ z ≤ rm.slots) (hq : pc + 3 = q) (kk : hG Γ k A Q M n z q L (va_rf e :: st)) : hG Γ k A Q M n z pc L (v4 :: v3 :: v2 :: v1 :: st) := by
  refine gx_callS (As := [v1, v2, v3, v4]) C Y hm hl hR hsum hsz (by rw [h0.1, h0.2]; exact hcs) d rfl hq (fun r M1 hp => by
    obtain ⟨x, rfl, rfl, rfl⟩ := hp
    exact (by rw [h0.1, h0.2]; exact kk))
theorem g_callS4I {q : Nat} {pi : Int32 → hM → Prop} {v1 v2 v3 v4 : Value} (C : hC Γ l k own nm cc nL ret rm A) (Y : hYS y bytes maxL rt 4) (hm : hMet Γ l y bytes maxL rt rm' ([v1, v2, v3, v4]) M (hpI pi)) (hl : Cond.methodLink own index y ∈ hTbl) (hR : rm'.frames + 1 ≤ rm.frames ∧ 8 + (maxL + 11) + rm'.locals ≤ rm.locals) (hsum : (st.map fun v => v.category).sum ≤ 8) (hsz : L.length = nL) (d : decode cc pc = .ok (.invokestatic index, 3)) (h0 : rm'.cells = 0 ∧ rm'.slots = 0) (hcs : n ≤ rm.cells ∧ z ≤ rm.slots) (hq : pc + 3 = q) (kk : ∀ (x : Int32) (M1 : hM), pi x M1 → hG Γ k A Q M1 n z q L (.int x :: st)) : hG Γ k A Q M n z pc L (v4 :: v3 :: v2 :: v1 :: st) := by
  refine gx_callS (As := [v1, v2, v3, v4]) C Y hm hl hR hsum hsz (by rw [h0.1, h0.2]; exact hcs) d rfl hq (fun r M1 hp => by
    obtain ⟨x, rfl, hx⟩ := hp
    exact (by rw [h0.1, h0.2]; exact kk x M1 hx))
theorem g_callS4Im {q : Nat} {pi : Int32 → hM → Prop} {v1 v2 v3 v4 : Value} (C : hC Γ l k own nm cc nL ret rm A) (Y : hYS y bytes maxL rt 4) (hm : hMet Γ l y bytes maxL rt rm' ([v1, v2, v3, v4]) M (hpI pi)) (hl : Cond.methodLink own index y ∈ hTbl) (hR : rm'.frames + 1 ≤ rm.frames ∧ 8 + (maxL + 11) + rm'.locals ≤ rm.locals) (hsum : (st.map fun v => v.category).sum ≤ 8) (hsz : L.length = nL) (d : decode cc pc = .ok (.invokestatic index, 3)) (hcs : n + rm'.cells ≤ rm.cells ∧ z + rm'.slots ≤ rm.slots) (hq : pc + 3 = q) (kk : ∀ (x : Int32) (M1 : hM), pi x M1 → hG Γ k A Q M1 (n + rm'.cells) (z + rm'.slots) q L (.int x :: st)) : hG Γ k A Q M n z pc L (v4 :: v3 :: v2 :: v1 :: st) := by
  refine gx_callS (As := [v1, v2, v3, v4]) C Y hm hl hR hsum hsz hcs d rfl hq (fun r M1 hp => by
    obtain ⟨x, rfl, hx⟩ := hp
    exact kk x M1 hx)
theorem g_callS4L {q : Nat} {pi : Int64 → hM → Prop} {v1 v2 v3 v4 : Value} (C : hC Γ l k own nm cc nL ret rm A) (Y : hYS y bytes maxL rt 4) (hm : hMet Γ l y bytes maxL rt rm' ([v1, v2, v3, v4]) M (hpL pi)) (hl : Cond.methodLink own index y ∈ hTbl) (hR : rm'.frames + 1 ≤ rm.frames ∧ 8 + (maxL + 11) + rm'.locals ≤ rm.locals) (hsum : (st.map fun v => v.category).sum ≤ 8) (hsz : L.length = nL) (d : decode cc pc = .ok (.invokestatic index, 3)) (h0 : rm'.cells = 0 ∧ rm'.slots = 0) (hcs : n ≤ rm.cells ∧ z ≤ rm.slots) (hq : pc + 3 = q) (kk : ∀ (x : Int64) (M1 : hM), pi x M1 → hG Γ k A Q M1 n z q L (.long x :: st)) : hG Γ k A Q M n z pc L (v4 :: v3 :: v2 :: v1 :: st) := by
  refine gx_callS (As := [v1, v2, v3, v4]) C Y hm hl hR hsum hsz (by rw [h0.1, h0.2]; exact hcs) d rfl hq (fun r M1 hp => by
    obtain ⟨x, rfl, hx⟩ := hp
    exact (by rw [h0.1, h0.2]; exact kk x M1 hx))
theorem g_callS4Q {q : Nat} {pi : Option Nat → hM → Prop} {v1 v2 v3 v4 : Value} (C : hC Γ l k own nm cc nL ret rm A) (Y : hYS y bytes maxL rt 4) (hm : hMet Γ l y bytes maxL rt rm' ([v1, v2, v3, v4]) M (hpQ pi)) (hl : Cond.methodLink own index y ∈ hTbl) (hR : rm'.frames + 1 ≤ rm.frames ∧ 8 + (maxL + 11) + rm'.locals ≤ rm.locals) (hsum : (st.map fun v => v.category).sum ≤ 8) (hsz : L.length = nL) (d : decode cc pc = .ok (.invokestatic index, 3)) (h0 : rm'.cells = 0 ∧ rm'.slots = 0) (hcs : n ≤ rm.cells ∧ z ≤ rm.slots) (hq : pc + 3 = q) (kk : ∀ (x : Option Nat) (M1 : hM), pi x M1 → hG Γ k A Q M1 n z q L (va_rf x :: st)) : hG Γ k A Q M n z pc L (v4 :: v3 :: v2 :: v1 :: st) := by
  refine gx_callS (As := [v1, v2, v3, v4]) C Y hm hl hR hsum hsz (by rw [h0.1, h0.2]; exact hcs) d rfl hq (fun r M1 hp => by
    obtain ⟨x, rfl, hx⟩ := hp
    exact (by rw [h0.1, h0.2]; exact kk x M1 hx))
theorem g_callS4Qm {q : Nat} {pi : Option Nat → hM → Prop} {v1 v2 v3 v4 : Value} (C : hC Γ l k own nm cc nL ret rm A) (Y : hYS y bytes maxL rt 4) (hm : hMet Γ l y bytes maxL rt rm' ([v1, v2, v3, v4]) M (hpQ pi)) (hl : Cond.methodLink own index y ∈ hTbl) (hR : rm'.frames + 1 ≤ rm.frames ∧ 8 + (maxL + 11) + rm'.locals ≤ rm.locals) (hsum : (st.map fun v => v.category).sum ≤ 8) (hsz : L.length = nL) (d : decode cc pc = .ok (.invokestatic index, 3)) (hcs : n + rm'.cells ≤ rm.cells ∧ z + rm'.slots ≤ rm.slots) (hq : pc + 3 = q) (kk : ∀ (x : Option Nat) (M1 : hM), pi x M1 → hG Γ k A Q M1 (n + rm'.cells) (z + rm'.slots) q L (va_rf x :: st)) : hG Γ k A Q M n z pc L (v4 :: v3 :: v2 :: v1 :: st) := by
  refine gx_callS (As := [v1, v2, v3, v4]) C Y hm hl hR hsum hsz hcs d rfl hq (fun r M1 hp => by
    obtain ⟨x, rfl, hx⟩ := hp
    exact kk x M1 hx)
theorem g_callS4V {q : Nat} {pi : hM → Prop} {v1 v2 v3 v4 : Value} (C : hC Γ l k own nm cc nL ret rm A) (Y : hYS y bytes maxL rt 4) (hm : hMet Γ l y bytes maxL rt rm' ([v1, v2, v3, v4]) M (hpV pi)) (hl : Cond.methodLink own index y ∈ hTbl) (hR : rm'.frames + 1 ≤ rm.frames ∧ 8 + (maxL + 11) + rm'.locals ≤ rm.locals) (hsum : (st.map fun v => v.category).sum ≤ 8) (hsz : L.length = nL) (d : decode cc pc = .ok (.invokestatic index, 3)) (h0 : rm'.cells = 0 ∧ rm'.slots = 0) (hcs : n ≤ rm.cells ∧ z ≤ rm.slots) (hq : pc + 3 = q) (kk : ∀ M1 : hM, pi M1 → hG Γ k A Q M1 n z q L st) : hG Γ k A Q M n z pc L (v4 :: v3 :: v2 :: v1 :: st) := by
  refine gx_callS (As := [v1, v2, v3, v4]) C Y hm hl hR hsum hsz (by rw [h0.1, h0.2]; exact hcs) d rfl hq (fun r M1 hp => by
    obtain ⟨rfl, hx⟩ := hp
    exact (by rw [h0.1, h0.2]; exact kk M1 hx))
theorem g_callS4Vm {q : Nat} {pi : hM → Prop} {v1 v2 v3 v4 : Value} (C : hC Γ l k own nm cc nL ret rm A) (Y : hYS y bytes maxL rt 4) (hm : hMet Γ l y bytes maxL rt rm' ([v1, v2, v3, v4]) M (hpV pi)) (hl : Cond.methodLink own index y ∈ hTbl) (hR : rm'.frames + 1 ≤ rm.frames ∧ 8 + (maxL + 11) + rm'.locals ≤ rm.locals) (hsum : (st.map fun v => v.category).sum ≤ 8) (hsz : L.length = nL) (d : decode cc pc = .ok (.invokestatic index, 3)) (hcs : n + rm'.cells ≤ rm.cells ∧ z + rm'.slots ≤ rm.slots) (hq : pc + 3 = q) (kk : ∀ M1 : hM, pi M1 → hG Γ k A Q M1 (n + rm'.cells) (z + rm'.slots) q L st) : hG Γ k A Q M n z pc L (v4 :: v3 :: v2 :: v1 :: st) := by
  refine gx_callS (As := [v1, v2, v3, v4]) C Y hm hl hR hsum hsz hcs d rfl hq (fun r M1 hp => by
    obtain ⟨rfl, hx⟩ := hp
    exact kk M1 hx)
theorem g_callS5P {q : Nat} {e : Int32} {v1 v2 v3 v4 v5 : Value} (C : hC Γ l k own nm cc nL ret rm A) (Y : hYS y bytes maxL rt 5) (hm : hMet Γ l y bytes maxL rt rm' ([v1, v2, v3, v4, v5]) M (hpP M e)) (hl : Cond.methodLink own index y ∈ hTbl) (hR : rm'.frames + 1 ≤ rm.frames ∧ 8 + (maxL + 11) + rm'.locals ≤ rm.locals) (hsum : (st.map fun v => v.category).sum ≤ 8) (hsz : L.length = nL) (d : decode cc pc = .ok (.invokestatic index, 3)) (h0 : rm'.cells = 0 ∧ rm'.slots = 0) (hcs : n ≤ rm.cells ∧ z ≤ rm.slots) (hq : pc + 3 = q) (kk : hG Γ k A Q M n z q L (.int e :: st)) : hG Γ k A Q M n z pc L (v5 :: v4 :: v3 :: v2 :: v1 :: st) := by
  refine gx_callS (As := [v1, v2, v3, v4, v5]) C Y hm hl hR hsum hsz (by rw [h0.1, h0.2]; exact hcs) d rfl hq (fun r M1 hp => by
    obtain ⟨x, rfl, rfl, rfl⟩ := hp
    exact (by rw [h0.1, h0.2]; exact kk))
theorem g_callS5O {q : Nat} {e : Option Nat} {v1 v2 v3 v4 v5 : Value} (C : hC Γ l k own nm cc nL ret rm A) (Y : hYS y bytes maxL rt 5) (hm : hMet Γ l y bytes maxL rt rm' ([v1, v2, v3, v4, v5]) M (hpO M e)) (hl : Cond.methodLink own index y ∈ hTbl) (hR : rm'.frames + 1 ≤ rm.frames ∧ 8 + (maxL + 11) + rm'.locals ≤ rm.locals) (hsum : (st.map fun v => v.category).sum ≤ 8) (hsz : L.length = nL) (d : decode cc pc = .ok (.invokestatic index, 3)) (h0 : rm'.cells = 0 ∧ rm'.slots = 0) (hcs : n ≤ rm.cells ∧ z ≤ rm.slots) (hq : pc + 3 = q) (kk : hG Γ k A Q M n z q L (va_rf e :: st)) : hG Γ k A Q M n z pc L (v5 :: v4 :: v3 :: v2 :: v1 :: st) := by
  refine gx_callS (As := [v1, v2, v3, v4, v5]) C Y hm hl hR hsum hsz (by rw [h0.1, h0.2]; exact hcs) d rfl hq (fun r M1 hp => by
    obtain ⟨x, rfl, rfl, rfl⟩ := hp
    exact (by rw [h0.1, h0.2]; exact kk))
theorem g_callS5I {q : Nat} {pi : Int32 → hM → Prop} {v1 v2 v3 v4 v5 : Value} (C : hC Γ l k own nm cc nL ret rm A) (Y : hYS y bytes maxL rt 5) (hm : hMet Γ l y bytes maxL rt rm' ([v1, v2, v3, v4, v5]) M (hpI pi)) (hl : Cond.methodLink own index y ∈ hTbl) (hR : rm'.frames + 1 ≤ rm.frames ∧ 8 + (maxL + 11) + rm'.locals ≤ rm.locals) (hsum : (st.map fun v => v.category).sum ≤ 8) (hsz : L.length = nL) (d : decode cc pc = .ok (.invokestatic index, 3)) (h0 : rm'.cells = 0 ∧ rm'.slots = 0) (hcs : n ≤ rm.cells ∧ z ≤ rm.slots) (hq : pc + 3 = q) (kk : ∀ (x : Int32) (M1 : hM), pi x M1 → hG Γ k A Q M1 n z q L (.int x :: st)) : hG Γ k A Q M n z pc L (v5 :: v4 :: v3 :: v2 :: v1 :: st) := by
  refine gx_callS (As := [v1, v2, v3, v4, v5]) C Y hm hl hR hsum hsz (by rw [h0.1, h0.2]; exact hcs) d rfl hq (fun r M1 hp => by
    obtain ⟨x, rfl, hx⟩ := hp
    exact (by rw [h0.1, h0.2]; exact kk x M1 hx))
theorem g_callS5Im {q : Nat} {pi : Int32 → hM → Prop} {v1 v2 v3 v4 v5 : Value} (C : hC Γ l k own nm cc nL ret rm A) (Y : hYS y bytes maxL rt 5) (hm : hMet Γ l y bytes maxL rt rm' ([v1, v2, v3, v4, v5]) M (hpI pi)) (hl : Cond.methodLink own index y ∈ hTbl) (hR : rm'.frames + 1 ≤ rm.frames ∧ 8 + (maxL + 11) + rm'.locals ≤ rm.locals) (hsum : (st.map fun v => v.category).sum ≤ 8) (hsz : L.length = nL) (d : decode cc pc = .ok (.invokestatic index, 3)) (hcs : n + rm'.cells ≤ rm.cells ∧ z + rm'.slots ≤ rm.slots) (hq : pc + 3 = q) (kk : ∀ (x : Int32) (M1 : hM), pi x M1 → hG Γ k A Q M1 (n + rm'.cells) (z + rm'.slots) q L (.int x :: st)) : hG Γ k A Q M n z pc L (v5 :: v4 :: v3 :: v2 :: v1 :: st) := by
  refine gx_callS (As := [v1, v2, v3, v4, v5]) C Y hm hl hR hsum hsz hcs d rfl hq (fun r M1 hp => by
    obtain ⟨x, rfl, hx⟩ := hp
    exact kk x M1 hx)
theorem g_callS5L {q : Nat} {pi : Int64 → hM → Prop} {v1 v2 v3 v4 v5 : Value} (C : hC Γ l k own nm cc nL ret rm A) (Y : hYS y bytes maxL rt 5) (hm : hMet Γ l y bytes maxL rt rm' ([v1, v2, v3, v4, v5]) M (hpL pi)) (hl : Cond.methodLink own index y ∈ hTbl) (hR : rm'.frames + 1 ≤ rm.frames ∧ 8 + (maxL + 11) + rm'.locals ≤ rm.locals) (hsum : (st.map fun v => v.category).sum ≤ 8) (hsz : L.length = nL) (d : decode cc pc = .ok (.invokestatic index, 3)) (h0 : rm'.cells = 0 ∧ rm'.slots = 0) (hcs : n ≤ rm.cells ∧ z ≤ rm.slots) (hq : pc + 3 = q) (kk : ∀ (x : Int64) (M1 : hM), pi x M1 → hG Γ k A Q M1 n z q L (.long x :: st)) : hG Γ k A Q M n z pc L (v5 :: v4 :: v3 :: v2 :: v1 :: st) := by
  refine gx_callS (As := [v1, v2, v3, v4, v5]) C Y hm hl hR hsum hsz (by rw [h0.1, h0.2]; exact hcs) d rfl hq (fun r M1 hp => by
    obtain ⟨x, rfl, hx⟩ := hp
    exact (by rw [h0.1, h0.2]; exact kk x M1 hx))
theorem g_callS5Q {q : Nat} {pi : Option Nat → hM → Prop} {v1 v2 v3 v4 v5 : Value} (C : hC Γ l k own nm cc nL ret rm A) (Y : hYS y bytes maxL rt 5) (hm : hMet Γ l y bytes maxL rt rm' ([v1, v2, v3, v4, v5]) M (hpQ pi)) (hl : Cond.methodLink own index y ∈ hTbl) (hR : rm'.frames + 1 ≤ rm.frames ∧ 8 + (maxL + 11) + rm'.locals ≤ rm.locals) (hsum : (st.map fun v => v.category).sum ≤ 8) (hsz : L.length = nL) (d : decode cc pc = .ok (.invokestatic index, 3)) (h0 : rm'.cells = 0 ∧ rm'.slots = 0) (hcs : n ≤ rm.cells ∧ z ≤ rm.slots) (hq : pc + 3 = q) (kk : ∀ (x : Option Nat) (M1 : hM), pi x M1 → hG Γ k A Q M1 n z q L (va_rf x :: st)) : hG Γ k A Q M n z pc L (v5 :: v4 :: v3 :: v2 :: v1 :: st) := by
  refine gx_callS (As := [v1, v2, v3, v4, v5]) C Y hm hl hR hsum hsz (by rw [h0.1, h0.2]; exact hcs) d rfl hq (fun r M1 hp => by
    obtain ⟨x, rfl, hx⟩ := hp
    exact (by rw [h0.1, h0.2]; exact kk x M1 hx))
theorem g_callS5Qm {q : Nat} {pi : Option Nat → hM → Prop} {v1 v2 v3 v4 v5 : Value} (C : hC Γ l k own nm cc nL ret rm A) (Y : hYS y bytes maxL rt 5) (hm : hMet Γ l y bytes maxL rt rm' ([v1, v2, v3, v4, v5]) M (hpQ pi)) (hl : Cond.methodLink own index y ∈ hTbl) (hR : rm'.frames + 1 ≤ rm.frames ∧ 8 + (maxL + 11) + rm'.locals ≤ rm.locals) (hsum : (st.map fun v => v.category).sum ≤ 8) (hsz : L.length = nL) (d : decode cc pc = .ok (.invokestatic index, 3)) (hcs : n + rm'.cells ≤ rm.cells ∧ z + rm'.slots ≤ rm.slots) (hq : pc + 3 = q) (kk : ∀ (x : Option Nat) (M1 : hM), pi x M1 → hG Γ k A Q M1 (n + rm'.cells) (z + rm'.slots) q L (va_rf x :: st)) : hG Γ k A Q M n z pc L (v5 :: v4 :: v3 :: v2 :: v1 :: st) := by
  refine gx_callS (As := [v1, v2, v3, v4, v5]) C Y hm hl hR hsum hsz hcs d rfl hq (fun r M1 hp => by
    obtain ⟨x, rfl, hx⟩ := hp
    exact kk x M1 hx)
theorem g_callS5V {q : Nat} {pi : hM → Prop} {v1 v2 v3 v4 v5 : Value} (C : hC Γ l k own nm cc nL ret rm A) (Y : hYS y bytes maxL rt 5) (hm : hMet Γ l y bytes maxL rt rm' ([v1, v2, v3, v4, v5]) M (hpV pi)) (hl : Cond.methodLink own index y ∈ hTbl) (hR : rm'.frames + 1 ≤ rm.frames ∧ 8 + (maxL + 11) + rm'.locals ≤ rm.locals) (hsum : (st.map fun v => v.category).sum ≤ 8) (hsz : L.length = nL) (d : decode cc pc = .ok (.invokestatic index, 3)) (h0 : rm'.cells = 0 ∧ rm'.slots = 0) (hcs : n ≤ rm.cells ∧ z ≤ rm.slots) (hq : pc + 3 = q) (kk : ∀ M1 : hM, pi M1 → hG Γ k A Q M1 n z q L st) : hG Γ k A Q M n z pc L (v5 :: v4 :: v3 :: v2 :: v1 :: st) := by
  refine gx_callS (As := [v1, v2, v3, v4, v5]) C Y hm hl hR hsum hsz (by rw [h0.1, h0.2]; exact hcs) d rfl hq (fun r M1 hp => by
    obtain ⟨rfl, hx⟩ := hp
    exact (by rw [h0.1, h0.2]; exact kk M1 hx))
theorem g_callS5Vm {q : Nat} {pi : hM → Prop} {v1 v2 v3 v4 v5 : Value} (C : hC Γ l k own nm cc nL ret rm A) (Y : hYS y bytes maxL rt 5) (hm : hMet Γ l y bytes maxL rt rm' ([v1, v2, v3, v4, v5]) M (hpV pi)) (hl : Cond.methodLink own index y ∈ hTbl) (hR : rm'.frames + 1 ≤ rm.frames ∧ 8 + (maxL + 11) + rm'.locals ≤ rm.locals) (hsum : (st.map fun v => v.category).sum ≤ 8) (hsz : L.length = nL) (d : decode cc pc = .ok (.invokestatic index, 3)) (hcs : n + rm'.cells ≤ rm.cells ∧ z + rm'.slots ≤ rm.slots) (hq : pc + 3 = q) (kk : ∀ M1 : hM, pi M1 → hG Γ k A Q M1 (n + rm'.cells) (z + rm'.slots) q L st) : hG Γ k A Q M n z pc L (v5 :: v4 :: v3 :: v2 :: v1 :: st) := by
  refine gx_callS (As := [v1, v2, v3, v4, v5]) C Y hm hl hR hsum hsz hcs d rfl hq (fun r M1 hp => by
    obtain ⟨rfl, hx⟩ := hp
    exact kk M1 hx)
theorem g_callSN3P {q : Nat} {e : Int32} {host : String} {v1 v2 v3 : Value} (C : hC Γ l k own nm cc nL ret rm A) (Y : hYS y bytes maxL rt 3) (hm : hMet Γ l y bytes maxL rt rm' ([v1, v2, v3]) M (hpP M e)) (hl : Cond.methodLinkNest own index y host ∈ hNest) (hR : rm'.frames + 1 ≤ rm.frames ∧ 8 + (maxL + 11) + rm'.locals ≤ rm.locals) (hsum : (st.map fun v => v.category).sum ≤ 8) (hsz : L.length = nL) (d : decode cc pc = .ok (.invokestatic index, 3)) (h0 : rm'.cells = 0 ∧ rm'.slots = 0) (hcs : n ≤ rm.cells ∧ z ≤ rm.slots) (hq : pc + 3 = q) (kk : hG Γ k A Q M n z q L (.int e :: st)) : hG Γ k A Q M n z pc L (v3 :: v2 :: v1 :: st) := by
  refine gx_callSN (As := [v1, v2, v3]) C Y hm hl hR hsum hsz (by rw [h0.1, h0.2]; exact hcs) d rfl hq (fun r M1 hp => by
    obtain ⟨x, rfl, rfl, rfl⟩ := hp
    exact (by rw [h0.1, h0.2]; exact kk))
theorem g_callI0V {q : Nat} {pi : hM → Prop} {b : Nat} (C : hC Γ l k own nm cc nL ret rm A) (Y : hYI y bytes maxL 0) (hm : hMet Γ l y bytes maxL none rm' (.ref b :: []) M (hpV pi)) (hl : Cond.methodLink own index y ∈ hTbl) (hR : rm'.frames + 1 ≤ rm.frames ∧ 8 + (maxL + 11) + rm'.locals ≤ rm.locals) (hsum : (st.map fun v => v.category).sum ≤ 8) (hsz : L.length = nL) (d : decode cc pc = .ok (.invokespecial index, 3)) (h0 : rm'.cells = 0 ∧ rm'.slots = 0) (hcs : n ≤ rm.cells ∧ z ≤ rm.slots) (hq : pc + 3 = q) (kk : ∀ M1 : hM, pi M1 → hG Γ k A Q M1 n z q L st) : hG Γ k A Q M n z pc L (.ref b :: st) := by
  refine gx_callI (As := []) C Y hm hl hR hsum hsz (by rw [h0.1, h0.2]; exact hcs) d rfl hq (fun r M1 hp => by
    obtain ⟨rfl, hx⟩ := hp
    exact (by rw [h0.1, h0.2]; exact kk M1 hx))
theorem g_callI0Vm {q : Nat} {pi : hM → Prop} {b : Nat} (C : hC Γ l k own nm cc nL ret rm A) (Y : hYI y bytes maxL 0) (hm : hMet Γ l y bytes maxL none rm' (.ref b :: []) M (hpV pi)) (hl : Cond.methodLink own index y ∈ hTbl) (hR : rm'.frames + 1 ≤ rm.frames ∧ 8 + (maxL + 11) + rm'.locals ≤ rm.locals) (hsum : (st.map fun v => v.category).sum ≤ 8) (hsz : L.length = nL) (d : decode cc pc = .ok (.invokespecial index, 3)) (hcs : n + rm'.cells ≤ rm.cells ∧ z + rm'.slots ≤ rm.slots) (hq : pc + 3 = q) (kk : ∀ M1 : hM, pi M1 → hG Γ k A Q M1 (n + rm'.cells) (z + rm'.slots) q L st) : hG Γ k A Q M n z pc L (.ref b :: st) := by
  refine gx_callI (As := []) C Y hm hl hR hsum hsz hcs d rfl hq (fun r M1 hp => by
    obtain ⟨rfl, hx⟩ := hp
    exact kk M1 hx)
theorem g_callI1V {q : Nat} {pi : hM → Prop} {b : Nat} {v1 : Value} (C : hC Γ l k own nm cc nL ret rm A) (Y : hYI y bytes maxL 1) (hm : hMet Γ l y bytes maxL none rm' (.ref b :: [v1]) M (hpV pi)) (hl : Cond.methodLink own index y ∈ hTbl) (hR : rm'.frames + 1 ≤ rm.frames ∧ 8 + (maxL + 11) + rm'.locals ≤ rm.locals) (hsum : (st.map fun v => v.category).sum ≤ 8) (hsz : L.length = nL) (d : decode cc pc = .ok (.invokespecial index, 3)) (h0 : rm'.cells = 0 ∧ rm'.slots = 0) (hcs : n ≤ rm.cells ∧ z ≤ rm.slots) (hq : pc + 3 = q) (kk : ∀ M1 : hM, pi M1 → hG Γ k A Q M1 n z q L st) : hG Γ k A Q M n z pc L (v1 :: .ref b :: st) := by
  refine gx_callI (As := [v1]) C Y hm hl hR hsum hsz (by rw [h0.1, h0.2]; exact hcs) d rfl hq (fun r M1 hp => by
    obtain ⟨rfl, hx⟩ := hp
    exact (by rw [h0.1, h0.2]; exact kk M1 hx))
theorem g_callI1Vm {q : Nat} {pi : hM → Prop} {b : Nat} {v1 : Value} (C : hC Γ l k own nm cc nL ret rm A) (Y : hYI y bytes maxL 1) (hm : hMet Γ l y bytes maxL none rm' (.ref b :: [v1]) M (hpV pi)) (hl : Cond.methodLink own index y ∈ hTbl) (hR : rm'.frames + 1 ≤ rm.frames ∧ 8 + (maxL + 11) + rm'.locals ≤ rm.locals) (hsum : (st.map fun v => v.category).sum ≤ 8) (hsz : L.length = nL) (d : decode cc pc = .ok (.invokespecial index, 3)) (hcs : n + rm'.cells ≤ rm.cells ∧ z + rm'.slots ≤ rm.slots) (hq : pc + 3 = q) (kk : ∀ M1 : hM, pi M1 → hG Γ k A Q M1 (n + rm'.cells) (z + rm'.slots) q L st) : hG Γ k A Q M n z pc L (v1 :: .ref b :: st) := by
  refine gx_callI (As := [v1]) C Y hm hl hR hsum hsz hcs d rfl hq (fun r M1 hp => by
    obtain ⟨rfl, hx⟩ := hp
    exact kk M1 hx)
theorem g_callI2V {q : Nat} {pi : hM → Prop} {b : Nat} {v1 v2 : Value} (C : hC Γ l k own nm cc nL ret rm A) (Y : hYI y bytes maxL 2) (hm : hMet Γ l y bytes maxL none rm' (.ref b :: [v1, v2]) M (hpV pi)) (hl : Cond.methodLink own index y ∈ hTbl) (hR : rm'.frames + 1 ≤ rm.frames ∧ 8 + (maxL + 11) + rm'.locals ≤ rm.locals) (hsum : (st.map fun v => v.category).sum ≤ 8) (hsz : L.length = nL) (d : decode cc pc = .ok (.invokespecial index, 3)) (h0 : rm'.cells = 0 ∧ rm'.slots = 0) (hcs : n ≤ rm.cells ∧ z ≤ rm.slots) (hq : pc + 3 = q) (kk : ∀ M1 : hM, pi M1 → hG Γ k A Q M1 n z q L st) : hG Γ k A Q M n z pc L (v2 :: v1 :: .ref b :: st) := by
  refine gx_callI (As := [v1, v2]) C Y hm hl hR hsum hsz (by rw [h0.1, h0.2]; exact hcs) d rfl hq (fun r M1 hp => by
    obtain ⟨rfl, hx⟩ := hp
    exact (by rw [h0.1, h0.2]; exact kk M1 hx))
theorem g_callI2Vm {q : Nat} {pi : hM → Prop} {b : Nat} {v1 v2 : Value} (C : hC Γ l k own nm cc nL ret rm A) (Y : hYI y bytes maxL 2) (hm : hMet Γ l y bytes maxL none rm' (.ref b :: [v1, v2]) M (hpV pi)) (hl : Cond.methodLink own index y ∈ hTbl) (hR : rm'.frames + 1 ≤ rm.frames ∧ 8 + (maxL + 11) + rm'.locals ≤ rm.locals) (hsum : (st.map fun v => v.category).sum ≤ 8) (hsz : L.length = nL) (d : decode cc pc = .ok (.invokespecial index, 3)) (hcs : n + rm'.cells ≤ rm.cells ∧ z + rm'.slots ≤ rm.slots) (hq : pc + 3 = q) (kk : ∀ M1 : hM, pi M1 → hG Γ k A Q M1 (n + rm'.cells) (z + rm'.slots) q L st) : hG Γ k A Q M n z pc L (v2 :: v1 :: .ref b :: st) := by
  refine gx_callI (As := [v1, v2]) C Y hm hl hR hsum hsz hcs d rfl hq (fun r M1 hp => by
    obtain ⟨rfl, hx⟩ := hp
    exact kk M1 hx)
theorem g_callI3V {q : Nat} {pi : hM → Prop} {b : Nat} {v1 v2 v3 : Value} (C : hC Γ l k own nm cc nL ret rm A) (Y : hYI y bytes maxL 3) (hm : hMet Γ l y bytes maxL none rm' (.ref b :: [v1, v2, v3]) M (hpV pi)) (hl : Cond.methodLink own index y ∈ hTbl) (hR : rm'.frames + 1 ≤ rm.frames ∧ 8 + (maxL + 11) + rm'.locals ≤ rm.locals) (hsum : (st.map fun v => v.category).sum ≤ 8) (hsz : L.length = nL) (d : decode cc pc = .ok (.invokespecial index, 3)) (h0 : rm'.cells = 0 ∧ rm'.slots = 0) (hcs : n ≤ rm.cells ∧ z ≤ rm.slots) (hq : pc + 3 = q) (kk : ∀ M1 : hM, pi M1 → hG Γ k A Q M1 n z q L st) : hG Γ k A Q M n z pc L (v3 :: v2 :: v1 :: .ref b :: st) := by
  refine gx_callI (As := [v1, v2, v3]) C Y hm hl hR hsum hsz (by rw [h0.1, h0.2]; exact hcs) d rfl hq (fun r M1 hp => by
    obtain ⟨rfl, hx⟩ := hp
    exact (by rw [h0.1, h0.2]; exact kk M1 hx))
theorem g_callI3Vm {q : Nat} {pi : hM → Prop} {b : Nat} {v1 v2 v3 : Value} (C : hC Γ l k own nm cc nL ret rm A) (Y : hYI y bytes maxL 3) (hm : hMet Γ l y bytes maxL none rm' (.ref b :: [v1, v2, v3]) M (hpV pi)) (hl : Cond.methodLink own index y ∈ hTbl) (hR : rm'.frames + 1 ≤ rm.frames ∧ 8 + (maxL + 11) + rm'.locals ≤ rm.locals) (hsum : (st.map fun v => v.category).sum ≤ 8) (hsz : L.length = nL) (d : decode cc pc = .ok (.invokespecial index, 3)) (hcs : n + rm'.cells ≤ rm.cells ∧ z + rm'.slots ≤ rm.slots) (hq : pc + 3 = q) (kk : ∀ M1 : hM, pi M1 → hG Γ k A Q M1 (n + rm'.cells) (z + rm'.slots) q L st) : hG Γ k A Q M n z pc L (v3 :: v2 :: v1 :: .ref b :: st) := by
  refine gx_callI (As := [v1, v2, v3]) C Y hm hl hR hsum hsz hcs d rfl hq (fun r M1 hp => by
    obtain ⟨rfl, hx⟩ := hp
    exact kk M1 hx)
theorem g_callI4V {q : Nat} {pi : hM → Prop} {b : Nat} {v1 v2 v3 v4 : Value} (C : hC Γ l k own nm cc nL ret rm A) (Y : hYI y bytes maxL 4) (hm : hMet Γ l y bytes maxL none rm' (.ref b :: [v1, v2, v3, v4]) M (hpV pi)) (hl : Cond.methodLink own index y ∈ hTbl) (hR : rm'.frames + 1 ≤ rm.frames ∧ 8 + (maxL + 11) + rm'.locals ≤ rm.locals) (hsum : (st.map fun v => v.category).sum ≤ 8) (hsz : L.length = nL) (d : decode cc pc = .ok (.invokespecial index, 3)) (h0 : rm'.cells = 0 ∧ rm'.slots = 0) (hcs : n ≤ rm.cells ∧ z ≤ rm.slots) (hq : pc + 3 = q) (kk : ∀ M1 : hM, pi M1 → hG Γ k A Q M1 n z q L st) : hG Γ k A Q M n z pc L (v4 :: v3 :: v2 :: v1 :: .ref b :: st) := by
  refine gx_callI (As := [v1, v2, v3, v4]) C Y hm hl hR hsum hsz (by rw [h0.1, h0.2]; exact hcs) d rfl hq (fun r M1 hp => by
    obtain ⟨rfl, hx⟩ := hp
    exact (by rw [h0.1, h0.2]; exact kk M1 hx))
theorem g_callI4Vm {q : Nat} {pi : hM → Prop} {b : Nat} {v1 v2 v3 v4 : Value} (C : hC Γ l k own nm cc nL ret rm A) (Y : hYI y bytes maxL 4) (hm : hMet Γ l y bytes maxL none rm' (.ref b :: [v1, v2, v3, v4]) M (hpV pi)) (hl : Cond.methodLink own index y ∈ hTbl) (hR : rm'.frames + 1 ≤ rm.frames ∧ 8 + (maxL + 11) + rm'.locals ≤ rm.locals) (hsum : (st.map fun v => v.category).sum ≤ 8) (hsz : L.length = nL) (d : decode cc pc = .ok (.invokespecial index, 3)) (hcs : n + rm'.cells ≤ rm.cells ∧ z + rm'.slots ≤ rm.slots) (hq : pc + 3 = q) (kk : ∀ M1 : hM, pi M1 → hG Γ k A Q M1 (n + rm'.cells) (z + rm'.slots) q L st) : hG Γ k A Q M n z pc L (v4 :: v3 :: v2 :: v1 :: .ref b :: st) := by
  refine gx_callI (As := [v1, v2, v3, v4]) C Y hm hl hR hsum hsz hcs d rfl hq (fun r M1 hp => by
    obtain ⟨rfl, hx⟩ := hp
    exact kk M1 hx)
theorem g_callI5V {q : Nat} {pi : hM → Prop} {b : Nat} {v1 v2 v3 v4 v5 : Value} (C : hC Γ l k own nm cc nL ret rm A) (Y : hYI y bytes maxL 5) (hm : hMet Γ l y bytes maxL none rm' (.ref b :: [v1, v2, v3, v4, v5]) M (hpV pi)) (hl : Cond.methodLink own index y ∈ hTbl) (hR : rm'.frames + 1 ≤ rm.frames ∧ 8 + (maxL + 11) + rm'.locals ≤ rm.locals) (hsum : (st.map fun v => v.category).sum ≤ 8) (hsz : L.length = nL) (d : decode cc pc = .ok (.invokespecial index, 3)) (h0 : rm'.cells = 0 ∧ rm'.slots = 0) (hcs : n ≤ rm.cells ∧ z ≤ rm.slots) (hq : pc + 3 = q) (kk : ∀ M1 : hM, pi M1 → hG Γ k A Q M1 n z q L st) : hG Γ k A Q M n z pc L (v5 :: v4 :: v3 :: v2 :: v1 :: .ref b :: st) := by
  refine gx_callI (As := [v1, v2, v3, v4, v5]) C Y hm hl hR hsum hsz (by rw [h0.1, h0.2]; exact hcs) d rfl hq (fun r M1 hp => by
    obtain ⟨rfl, hx⟩ := hp
    exact (by rw [h0.1, h0.2]; exact kk M1 hx))
theorem g_callI5Vm {q : Nat} {pi : hM → Prop} {b : Nat} {v1 v2 v3 v4 v5 : Value} (C : hC Γ l k own nm cc nL ret rm A) (Y : hYI y bytes maxL 5) (hm : hMet Γ l y bytes maxL none rm' (.ref b :: [v1, v2, v3, v4, v5]) M (hpV pi)) (hl : Cond.methodLink own index y ∈ hTbl) (hR : rm'.frames + 1 ≤ rm.frames ∧ 8 + (maxL + 11) + rm'.locals ≤ rm.locals) (hsum : (st.map fun v => v.category).sum ≤ 8) (hsz : L.length = nL) (d : decode cc pc = .ok (.invokespecial index, 3)) (hcs : n + rm'.cells ≤ rm.cells ∧ z + rm'.slots ≤ rm.slots) (hq : pc + 3 = q) (kk : ∀ M1 : hM, pi M1 → hG Γ k A Q M1 (n + rm'.cells) (z + rm'.slots) q L st) : hG Γ k A Q M n z pc L (v5 :: v4 :: v3 :: v2 :: v1 :: .ref b :: st) := by
  refine gx_callI (As := [v1, v2, v3, v4, v5]) C Y hm hl hR hsum hsz hcs d rfl hq (fun r M1 hp => by
    obtain ⟨rfl, hx⟩ := hp
    exact kk M1 hx)
end Cl
end hRows3
end
section
/-! ===== throws, and calls of methods that may throw ===== -/
abbrev hNms : List String := ["java/lang/RuntimeException", "java/lang/Exception"]
def hThr (own : String) (ik ic : Nat) (cls : String) : Prop := Bundle.fit cls = true ∧ (∀ n ∈ hNms, Bundle.fit n = true) ∧ Cond.classLink own ik cls ∈ hTbl ∧ Cond.initialized cls ∈ hTbl ∧ (∀ w ∈ (vx_atS own ic cls hNms).filter goodWord, w ∈ hTbl) ∧ (∀ w ∈ (vx_atS own ic cls hNms).filter (fun w => !goodWord w), w ∈ hNest) ∧ (∀ w ∈ Cond.classLink own ik cls :: Cond.initialized cls :: vx_atS own ic cls hNms, vx_ot w = true)
theorem hThr_IAE : hThr RX4 40 44 "java/lang/IllegalArgumentException" := ⟨by decide +kernel, by decide +kernel, qw_389, qw_37, by decide +kernel, by decide +kernel, by decide +kernel⟩
theorem hThr_ISE : hThr RX4 53 57 "java/lang/IllegalStateException" := ⟨by decide +kernel, by decide +kernel, qw_406, qw_38, by decide +kernel, by decide +kernel, by decide +kernel⟩
theorem hThr_IOB : hThr RX4 71 75 "java/lang/IndexOutOfBoundsException" := ⟨by decide +kernel, by decide +kernel, qw_254, qw_44, by decide +kernel, by decide +kernel, by decide +kernel⟩
section hRows4
variable {Γ : hGam} {l : Launch} {k : hCtx} {own nm : String} {cc : ByteArray} {nL : Nat} {ret : Option FieldType} {rm : Room} {A : Nat → Prop} {Q : State → Prop} {M M0 : hM} {n z pc mc ms : Nat} {L : List (Option Value)} {st : List Value} {px : String → Prop}
theorem g_throwS {post : Option Value → hM → Prop} {ik ic is : Nat} {cls text : String} (C : hC Γ l k own nm cc nL ret rm (hA M0 (kS k).heap.size)) (hl : l.stackTraces = false) (hno : ∀ x ∈ (kC k).exceptionTable.toList, False) (Th : hThr own ik ic cls) (hs : (own, is, text) ∈ hStrs) (hp : px cls) (hsz : L.length = nL)
    (d0 : decode cc pc = .ok (.new ik, 3)) (d3 : decode cc (pc + 3) = .ok (.dup, 1)) (d4 : decode cc (pc + 4) = .ok (.ldc is, 2)) (d6 : decode cc (pc + 6) = .ok (.invokespecial ic, 3)) (d9 : decode cc (pc + 9) = .ok (.athrow, 1))
    (hf : 5 < rm.frames) (hlo : (st.map fun v => v.category).sum + 82 ≤ rm.locals) (hc1 : n + 1 ≤ rm.cells) (hs1 : z + 6 ≤ rm.slots) (hc2 : n + 1 ≤ mc) (hs2 : z + 6 ≤ ms) :
    hG Γ k (hA M0 (kS k).heap.size) (hEndX Γ k M0 post px mc ms) M0 n z pc L st := by
  intro H locs ls h1 h2 h3 h4
  obtain ⟨t1, t2, t3, t4, t5, t6, t7⟩ := Th
  obtain ⟨sa, hsa⟩ := C.hx.2.2.2.1 _ hs
  refine vx_throwS (A := hA M0 (kS k).heap.size) (names := hNms) C.ex C.cd (by rw [C.la]; exact hl) C.ow t1 t2 (C.ts _ t3) (C.ts _ t4) hsa ?_ t7 C.hx.2.1 C.hx.2.2.1 h3 (by rw [C.ml, ← hsz]; exact h4.1) d0 d3 d4 d6 d9 (fun x hx => (hno x hx).elim) (by rw [C.ro]; exact hf) (by rw [C.ro]; exact hlo) (by rw [C.ro]; exact hc1) (by rw [C.ro]; exact hs1) C.lk ?_ h3.2.2 hc2 hs2
  · intro w hw
    by_cases g : goodWord w = true
    · exact C.ts _ (t5 w (List.mem_filter.mpr ⟨hw, g⟩))
    · have hg : (!goodWord w) = true := by
        cases hgw : goodWord w
        · rfl
        · exact absurd hgw g
      have hn := t6 w (List.mem_filter.mpr ⟨hw, hg⟩)
      have hot : w.onTables = true := by
        have g2 := (List.mem_filter.mp hn).2
        cases w <;> first | rfl | (simp [hNk] at g2)
      exact va_Nw.use hot (C.hx.2.2.2.2.1 w hn)
  · intro t hal hz hq
    refine ⟨hp, h1.kept hq, Nat.le_trans h3.1 hz, fun q g1 g2 => ?_⟩
    rw [hq q (Nat.lt_of_lt_of_le g1 h3.1)]
    exact h3.2.1 q g1 g2
/-- q of class E is thrown over the frame -/
def hGX (Γ : hGam) (k : hCtx) (A : Nat → Prop) (Q : State → Prop) (M : hM) (n z pc : Nat) (L : List (Option Value)) (st : List Value) (E : String) : Prop :=
  ∀ (H : Heap) (locs : List Loc) (ls : Array Slot) (q : Addr) (ce : Cell), hP Γ M H → hWr A M → va_S A (kS k).heap H locs → hLoc ls L → H[q]? = some ce → ce.vm = .none → (kS k).vm.findClass E = some ce.cls →
    vx_W (kP k) (kL k) (kE k) (kR k) (kS k) (kM k) (kA k) (kB k) (kT k) (kC k) H locs n z Q (F0 (kM k) pc ls st) q
theorem h_afterX {H : Heap} {locs : List Loc} {ls : Array Slot} {stk : List Value} {a9 : Array Value} {mc9 ms9 : Nat} {post : Option Value → hM → Prop} (C : hC Γ l k own nm cc nL ret rm A) (hr : vx_Run (kP k) (kL k) (kE k) (kR k) (kS k) (kM k) (kA k) (kB k) (kT k) (kC k) H locs n z mc9 ms9 (F0 (kM k) pc ls stk) st (hQ Γ M H.size post a9) (hXC Γ M H.size px) (hA M H.size)) (h2 : hWr A M) (h3 : va_S A (kS k).heap H locs) (h4 : hLoc ls L)
    (kx : ∀ E : String, px E → hGX Γ k A Q M (n + mc9) (z + ms9) pc L st E)
    (kk : ∀ (r : Option Value) (M1 : hM), post r M1 → hG Γ k A Q M1 (n + mc9) (z + ms9) (pc + 3) L (r.toList ++ st)) : W (kP k) (kL k) (kE k) (kR k) (kS k) (kM k) (kA k) (kB k) (kT k) (kC k) H locs n z Q (F0 (kM k) pc ls stk) := by
  intro T hT X
  have hsub : ∀ q, hA M H.size q → A q := fun q h => by
    rcases h with ⟨x, h⟩ | h
    · exact h2 q x h
    · exact C.ha q (Nat.le_trans h3.1 h)
  rcases hr T hT X with ⟨v, st₀, t, T', Lo, h0, X', hL, e1, e2, ⟨⟨r, M1, hv, hp, hP1, hW1⟩, hF⟩, step⟩ | ⟨q, st₀, t, T', Lo, E, ce, h0, X', hL, e1, e2, ⟨hpx, hP1, hF⟩, hce, hcv, hcl, step⟩
  · cases hv
    obtain ⟨k1, k2, k3⟩ := vx_keep (A0 := A) (A1 := hA M H.size) h0 e1 h3 (fun q _ h => hsub q h) hsub hL hF
    obtain ⟨t2, a1, b1⟩ := kk v M1 hp T'.heap (locs ++ Lo) ls (by rw [e1]; exact hP1) (fun a x h => hsub a (hW1 a x h)) k3 h4 T' rfl X'
    exact ⟨t2, step t2 a1, b1⟩
  · obtain ⟨k1, k2, k3⟩ := vx_keep (A0 := A) (A1 := hA M H.size) h0 e1 h3 (fun q _ h => hsub q h) hsub hL hF
    obtain ⟨t2, a1, b1⟩ := kx E hpx T'.heap (locs ++ Lo) ls q ce (by rw [e1]; exact hP1) h2 k3 h4 (by rw [e1]; exact hce) hcv hcl T' rfl X'
    exact ⟨t2, step.trans a1, b1⟩
theorem gx_callVX {y : MethodName} {bytes : ByteArray} {maxL index : Nat} {rt : Option FieldType} {rm' : Room} {post : Option Value → hM → Prop} {q b ci N : Nat} {T : u_T} {w : Bool} {fs : List Value} {As stk : List Value} (C : hC Γ l k own nm cc nL ret rm A) (Y : hYV y bytes maxL rt As.length) (hm : hMetX Γ l y bytes maxL rt rm' (.ref b :: As) M post px) (hl : Cond.methodLink own index y ∈ hTbl) (hb : M b = some (w, .inr (ci, fs))) (hc : vwCl[ci]? = some (y.cls, T, N)) (hR : rm'.frames + 1 ≤ rm.frames ∧ 8 + (maxL + 11) + rm'.locals ≤ rm.locals) (hsum : (st.map fun v => v.category).sum ≤ 8) (hsz : L.length = nL) (hcs : n + rm'.cells ≤ rm.cells ∧ z + rm'.slots ≤ rm.slots) (d : decode cc pc = .ok (.invokevirtual index, 3)) (hstk : stk = As.reverse ++ .ref b :: st) (hq : pc + 3 = q)
    (kx : ∀ E : String, px E → hGX Γ k A Q M (n + rm'.cells) (z + rm'.slots) pc L st E)
    (kk : ∀ (r : Option Value) (M1 : hM), post r M1 → hG Γ k A Q M1 (n + rm'.cells) (z + rm'.slots) q L (r.toList ++ st)) : hG Γ k A Q M n z pc L stk := by
  subst hq
  intro H locs ls h1 h2 h3 h4
  rw [← C.la] at hm
  refine h_afterX C (vx_runV (As := As) (rest := st) ⟨C.ex, C.cd, C.ml, C.ow, C.ts⟩ (hm H.size) ⟨hYF.cb C Y.1 hl hR, C.ts _ Y.2.1, C.ts _ Y.2.2⟩ ⟨hBx_blind, va_recv (D := Γ.1) (cl := vwCl) C.hk (h1.one hb) hc (q0 := 0) rfl, fun U hU hW => ⟨rfl, hBx_at C h1 h2 h3 U hU hW⟩⟩ rfl rfl (by rw [← hsz]; exact h4.1) hstk (h_sum hsum) d (by rw [C.ro]; exact hcs)) h2 h3 h4 kx kk
end hRows4
end
