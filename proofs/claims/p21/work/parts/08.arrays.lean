/-- a class that is found has its row -/
theorem hFound {s : State} {nm : String} {c : ClassId} (h : s.vm.findClass nm = some c) : ∃ kK : Class, s.vm.classes[c]? = some kK := by
  have h2 := h
  unfold Vm.findClass at h2
  obtain ⟨hlt, -⟩ := Array.findIdx?_eq_some_iff_getElem.mp h2
  exact ⟨_, Array.getElem?_eq_getElem hlt⟩
section hRows2
variable {Γ : hGam} {l : Launch} {k : hCtx} {own nm : String} {cc : ByteArray} {nL : Nat} {ret : Option FieldType} {rm : Room} {A : Nat → Prop} {Q : State → Prop} {M : hM} {n z pc : Nat} {L : List (Option Value)} {st : List Value}
/-! arrays -/
abbrev aI (Γ : hGam) (N : Nat) (f : Nat → Int32) : va_E := .inl (Γ.2.1 0, N, .inl f)
abbrev aZ (Γ : hGam) (N : Nat) (f : Nat → Int32) : va_E := .inl (Γ.2.1 1, N, .inl f)
abbrev aH (Γ : hGam) (N : Nat) (f : Nat → Option Nat) : va_E := .inl (Γ.2.1 2, N, .inr (.inr (.inr (.inr f))))
abbrev aO (Γ : hGam) (N : Nat) (f : Nat → Option Nat) : va_E := .inl (Γ.2.1 3, N, .inr (.inr (.inr (.inr f))))
theorem h_in {i : Int32} {j N : Nat} (hi : i = nI j) (hj : j < N) (hN : N < 2 ^ 31) : vp_in i N := by rw [hi]; exact vp_in_nI hj hN
theorem h_cl {i : Int32} {j N : Nat} (hi : i = nI j) (hj : j < N) (hN : N < 2 ^ 31) : i.toNatClampNeg = j := by rw [hi]; exact nI_clamp (by omega)
theorem g_iald {q a N : Nat} {w : Bool} {f : Nat → Int32} {i : Int32} (C : hC Γ l k own nm cc nL ret rm A) (j : Nat) (hi : i = nI j) (hj : j < N) (hN : N < 2 ^ 31) (d : decode cc pc = .ok (.iaload, 1)) (hM : M a = some (w, aI Γ N f)) (hq : pc + 1 = q) (kk : hG Γ k A Q M n z q L (.int (f j) :: st)) : hG Γ k A Q M n z pc L (.int i :: .ref a :: st) := by
  subst hq
  intro H locs ls h1 h2 h3 h4
  refine va_iald (D := Γ.1) (cl := vwCl) C.ex C.cd C.hk (h1.oneA hM (by show N ≠ 0; omega)) 0 0 rfl rfl (h_in hi hj hN) d ?_
  rw [h_cl hi hj hN]
  exact kk H locs ls h1 h2 h3 h4
theorem g_zald {q a N : Nat} {w : Bool} {f : Nat → Int32} {i : Int32} (C : hC Γ l k own nm cc nL ret rm A) (j : Nat) (hi : i = nI j) (hj : j < N) (hN : N < 2 ^ 31) (d : decode cc pc = .ok (.baload, 1)) (hM : M a = some (w, aZ Γ N f)) (hq : pc + 1 = q) (kk : hG Γ k A Q M n z q L (.int (f j) :: st)) : hG Γ k A Q M n z pc L (.int i :: .ref a :: st) := by
  subst hq
  intro H locs ls h1 h2 h3 h4
  refine va_zald (D := Γ.1) (cl := vwCl) C.ex C.cd C.hk (h1.oneA hM (by show N ≠ 0; omega)) 0 1 rfl rfl (h_in hi hj hN) d ?_
  rw [h_cl hi hj hN]
  exact kk H locs ls h1 h2 h3 h4
theorem g_aaldH {q a N : Nat} {w : Bool} {f : Nat → Option Nat} {i : Int32} (C : hC Γ l k own nm cc nL ret rm A) (j : Nat) (hi : i = nI j) (hj : j < N) (hN : N < 2 ^ 31) (d : decode cc pc = .ok (.aaload, 1)) (hM : M a = some (w, aH Γ N f)) (hq : pc + 1 = q) (kk : hG Γ k A Q M n z q L (va_rf (f j) :: st)) : hG Γ k A Q M n z pc L (.int i :: .ref a :: st) := by
  subst hq
  intro H locs ls h1 h2 h3 h4
  refine va_aldq (D := Γ.1) (cl := vwCl) C.ex C.cd C.hk (h1.oneA hM (by show N ≠ 0; omega)) 0 2 rfl rfl (h_in hi hj hN) d ?_
  rw [h_cl hi hj hN]
  exact kk H locs ls h1 h2 h3 h4
theorem g_aaldO {q a N : Nat} {w : Bool} {f : Nat → Option Nat} {i : Int32} (C : hC Γ l k own nm cc nL ret rm A) (j : Nat) (hi : i = nI j) (hj : j < N) (hN : N < 2 ^ 31) (d : decode cc pc = .ok (.aaload, 1)) (hM : M a = some (w, aO Γ N f)) (hq : pc + 1 = q) (kk : hG Γ k A Q M n z q L (va_rf (f j) :: st)) : hG Γ k A Q M n z pc L (.int i :: .ref a :: st) := by
  subst hq
  intro H locs ls h1 h2 h3 h4
  refine va_aldq (D := Γ.1) (cl := vwCl) C.ex C.cd C.hk (h1.oneA hM (by show N ≠ 0; omega)) 0 3 rfl rfl (h_in hi hj hN) d ?_
  rw [h_cl hi hj hN]
  exact kk H locs ls h1 h2 h3 h4
theorem g_iast {q a N : Nat} {f : Nat → Int32} {i : Int32} {x : Int32} (C : hC Γ l k own nm cc nL ret rm A) (j : Nat) (hi : i = nI j) (hj : j < N) (hN : N < 2 ^ 31) (d : decode cc pc = .ok (.iastore, 1)) (hM : M a = some (true, aI Γ N f)) (hq : pc + 1 = q) (kk : hG Γ k A Q (hU M a (aI Γ N (upd f j x))) n z q L st) : hG Γ k A Q M n z pc L (.int x :: .int i :: .ref a :: st) := by
  subst hq
  intro H locs ls h1 h2 h3 h4
  have hin := h_in hi hj hN
  have hcl := h_cl hi hj hN
  refine W.iast C.ex C.cd (h1.tr hM) ((C.hk.2 0 _ rfl).1 N (fun j => .int (f j))) (fun q => by cases q) (by show ¬ (i < 0 ∨ (arrV _ _ _).slots.size ≤ _); rw [arrV_size]; exact hin) rfl rfl d fun H1 e zz oq => ?_
  refine kk H1 _ ls (h1.put ?_ oq) (h2.put (h2 a _ hM)) (h3.put zz oq (h2 a _ hM)) h4
  show H1[a]? = some (vp_cell _ _)
  rw [e, vp_cell_i, vp_cell_i, arrV_store, hcl]
  congr 2
  funext q
  by_cases hq : q = j
  · subst hq
    simp [updV, upd, vp_updL]
  · simp [updV, upd, vp_updL, hq]
theorem g_aastH {q a N v : Nat} {w : Bool} {f : Nat → Option Nat} {i : Int32} {vs : List Value} (C : hC Γ l k own nm cc nL ret rm A) (j : Nat) (hi : i = nI j) (hj : j < N) (hN : N < 2 ^ 31) (d : decode cc pc = .ok (.aastore, 1)) (hM : M a = some (true, aH Γ N f)) (hv : M v = some (w, .inr (2, vs))) (hq : pc + 1 = q) (kk : hG Γ k A Q (hU M a (aH Γ N (va_up f j (some v)))) n z q L st) : hG Γ k A Q M n z pc L (.ref v :: .int i :: .ref a :: st) := by
  subst hq
  intro H locs ls h1 h2 h3 h4
  have hcl := h_cl hi hj hN
  have hn0 : ¬ i < 0 := fun q => h_in hi hj hN (Or.inl q)
  obtain ⟨r', hr', cellV, g1, g2, g3, -⟩ := h1.tro hv
  have hcls := (C.hk.1 2 _ rfl).2
  obtain ⟨kA9, comp, k1, k2, k3, -⟩ := (C.hk.2 2 _ rfl).2
  have hcomp : comp = Γ.1.1 2 := Option.some.inj (k3.symm.trans hcls.1)
  subst hcomp
  obtain ⟨kC9, hkC, -⟩ := hcls.2
  refine W.aast C.ex C.cd (h1.tr hM) (fun q h => by cases h) (fun h => by cases h) k1 k2 rfl hkC ⟨hn0, by show _ < (arrV _ _ _).slots.size; rw [arrV_size, hcl]; exact hj⟩ g1 (fun q h => by rw [g3] at h; cases h) (by rw [g2]; exact hkC) (by rw [g2]; exact va_assign hcls) rfl rfl d fun H1 e zz oq => ?_
  refine kk H1 _ ls (h1.put ?_ oq) (h2.put (h2 a _ hM)) (h3.put zz oq (h2 a _ hM)) h4
  show H1[a]? = some (vp_cell _ _)
  rw [e, vp_cell_q, vp_cell_q, arrV_store, hcl]
  congr 2
  funext q
  by_cases hq : q = j
  · subst hq
    simp [updV, va_up, va_rf]
  · simp [updV, va_up, hq]
/-- an object of a class that may be cast to Object, into an array of Objects -/
theorem g_aastO {q a N v ci : Nat} {w : Bool} {r : vw_C} {f : Nat → Option Nat} {i : Int32} {vs : List Value} (C : hC Γ l k own nm cc nL ret rm A) (j : Nat) (hi : i = nI j) (hj : j < N) (hN : N < 2 ^ 31) (d : decode cc pc = .ok (.aastore, 1)) (hM : M a = some (true, aO Γ N f)) (hv : M v = some (w, .inr (ci, vs))) (hcl2 : vwCl[ci]? = some r) (hcast : Cond.castable r.1 "java/lang/Object" ∈ hNest) (hq : pc + 1 = q) (kk : hG Γ k A Q (hU M a (aO Γ N (va_up f j (some v)))) n z q L st) : hG Γ k A Q M n z pc L (.ref v :: .int i :: .ref a :: st) := by
  subst hq
  intro H locs ls h1 h2 h3 h4
  have hcl := h_cl hi hj hN
  have hn0 : ¬ i < 0 := fun q => h_in hi hj hN (Or.inl q)
  obtain ⟨r', hr', cellV, g1, g2, g3, -⟩ := h1.tro hv
  have hrr : r' = r := Option.some.inj (hr'.symm.trans hcl2)
  subst hrr
  have hcls := (C.hk.1 ci _ hcl2).2
  obtain ⟨kA9, comp, k1, k2, k3, -⟩ := (C.hk.2 3 _ rfl).2
  obtain ⟨c0, t0, f1, f2, f3⟩ := Cond.castable_spec (va_Nw.use (A := kA k) rfl (C.hx.2.2.2.2.1 _ hcast))
  have e1 : c0 = Γ.1.1 ci := Option.some.inj (f1.symm.trans hcls.1)
  have e2 : t0 = comp := Option.some.inj (f2.symm.trans k3)
  subst e2
  obtain ⟨kC9, hkC, -⟩ := hcls.2
  obtain ⟨kK9, hkK⟩ := hFound f2
  refine W.aast C.ex C.cd (h1.tr hM) (fun q h => by cases h) (fun h => by cases h) k1 k2 rfl hkK ⟨hn0, by show _ < (arrV _ _ _).slots.size; rw [arrV_size, hcl]; exact hj⟩ g1 (fun q h => by rw [g3] at h; cases h) (by rw [g2]; exact hkC) (by rw [g2, ← e1]; exact f3) rfl rfl d fun H1 e zz oq => ?_
  refine kk H1 _ ls (h1.put ?_ oq) (h2.put (h2 a _ hM)) (h3.put zz oq (h2 a _ hM)) h4
  show H1[a]? = some (vp_cell _ _)
  rw [e, vp_cell_q, vp_cell_q, arrV_store, hcl]
  congr 2
  funext q
  by_cases hq : q = j
  · subst hq
    simp [updV, va_up, va_rf]
  · simp [updV, va_up, hq]
theorem g_alenI {q a N : Nat} {w : Bool} {f : Nat → Int32} (C : hC Γ l k own nm cc nL ret rm A) (d : decode cc pc = .ok (.arraylength, 1)) (hM : M a = some (w, aI Γ N f)) (hq : pc + 1 = q) (kk : hG Γ k A Q M n z q L (.int (nI N) :: st)) : hG Γ k A Q M n z pc L (.ref a :: st) := by
  subst hq
  intro H locs ls h1 h2 h3 h4
  by_cases hn0 : N = 0
  · rcases h1 a _ hM with z9 | ⟨⟨e9, -, g9, q9⟩, -⟩
    · refine va_alen (D := Γ.1) (cl := vwCl) (ws := [(a, aI Γ N f)]) C.ex C.cd C.hk (fun k9 q9 hk9 => ?_) 0 0 rfl rfl rfl d (kk H locs ls h1 h2 h3 h4)
      have hz : k9 < 1 := (List.getElem?_eq_some_iff.mp hk9).1
      rw [show k9 = 0 by omega] at hk9
      cases hk9
      exact z9
    · subst e9
      subst hn0
      exact va_tlen C.ex C.cd C.hx.2.2.2.2.2.2.2.2.1 h3 rfl d (kk H locs ls h1 h2 h3 h4)
  · exact va_alen (D := Γ.1) (cl := vwCl) C.ex C.cd C.hk (h1.oneA hM hn0) 0 0 rfl rfl rfl d (kk H locs ls h1 h2 h3 h4)
theorem g_alenH {q a N : Nat} {w : Bool} {f : Nat → Option Nat} (C : hC Γ l k own nm cc nL ret rm A) (d : decode cc pc = .ok (.arraylength, 1)) (hM : M a = some (w, aH Γ N f)) (hq : pc + 1 = q) (kk : hG Γ k A Q M n z q L (.int (nI N) :: st)) : hG Γ k A Q M n z pc L (.ref a :: st) := by
  subst hq
  intro H locs ls h1 h2 h3 h4
  by_cases hn0 : N = 0
  · rcases h1 a _ hM with z9 | ⟨⟨e9, -, g9, q9⟩, -⟩
    · refine va_alen (D := Γ.1) (cl := vwCl) (ws := [(a, aH Γ N f)]) C.ex C.cd C.hk (fun k9 q9 hk9 => ?_) 0 2 rfl rfl rfl d (kk H locs ls h1 h2 h3 h4)
      have hz : k9 < 1 := (List.getElem?_eq_some_iff.mp hk9).1
      rw [show k9 = 0 by omega] at hk9
      cases hk9
      exact z9
    · subst e9
      subst hn0
      exact va_tlen C.ex C.cd C.hx.2.2.2.2.2.2.2.2.1 h3 rfl d (kk H locs ls h1 h2 h3 h4)
  · exact va_alen (D := Γ.1) (cl := vwCl) C.ex C.cd C.hk (h1.oneA hM hn0) 0 2 rfl rfl rfl d (kk H locs ls h1 h2 h3 h4)
theorem g_alenO {q a N : Nat} {w : Bool} {f : Nat → Option Nat} (C : hC Γ l k own nm cc nL ret rm A) (d : decode cc pc = .ok (.arraylength, 1)) (hM : M a = some (w, aO Γ N f)) (hq : pc + 1 = q) (kk : hG Γ k A Q M n z q L (.int (nI N) :: st)) : hG Γ k A Q M n z pc L (.ref a :: st) := by
  subst hq
  intro H locs ls h1 h2 h3 h4
  by_cases hn0 : N = 0
  · rcases h1 a _ hM with z9 | ⟨⟨e9, -, g9, q9⟩, -⟩
    · refine va_alen (D := Γ.1) (cl := vwCl) (ws := [(a, aO Γ N f)]) C.ex C.cd C.hk (fun k9 q9 hk9 => ?_) 0 3 rfl rfl rfl d (kk H locs ls h1 h2 h3 h4)
      have hz : k9 < 1 := (List.getElem?_eq_some_iff.mp hk9).1
      rw [show k9 = 0 by omega] at hk9
      cases hk9
      exact z9
    · subst e9
      subst hn0
      exact va_tlen C.ex C.cd C.hx.2.2.2.2.2.2.2.2.1 h3 rfl d (kk H locs ls h1 h2 h3 h4)
  · exact va_alen (D := Γ.1) (cl := vwCl) C.ex C.cd C.hk (h1.oneA hM hn0) 0 3 rfl rfl rfl d (kk H locs ls h1 h2 h3 h4)
theorem g_newI {q N : Nat} {i : Int32} (C : hC Γ l k own nm cc nL ret rm A) (hw : Cond.arrayClass FieldType.int ∈ hTbl) (hi : i = nI N) (hN : N < 1000000) (hcells : n + 1 ≤ rm.cells) (hslots : z + N ≤ rm.slots) (d : decode cc pc = .ok (.newarray .int, 2)) (hq : pc + 2 = q) (kk : ∀ b : Nat, M b = none → hG Γ k A Q (hU M b (aI Γ N (fun _ => 0))) (n + 1) (z + N) q L (.ref b :: st)) : hG Γ k A Q M n z pc L (.int i :: st) := by
  subst hq
  intro H locs ls h1 h2 h3 h4
  refine va_newaK (atype := .int) C.ex C.cd (C.ts _ hw) rfl d rfl (N := N) (by rw [hi]; exact nI_pos (by omega)) (by rw [hi]; exact nI_clamp (by omega)) (by show N * 4 ≤ _; omega) (by rw [C.ro]; exact hcells) (by rw [C.ro]; exact hslots) rfl fun H1 cA e1 z1 o1 hAr hNm => ?_
  have hcA : cA = Γ.2.1 0 := Option.some.inj (hNm.symm.trans (va_nm_int (C.hk.2 0 _ rfl).2))
  subst hcA
  refine kk H.size (h1.fresh (Nat.le_refl _)) H1 locs ls (fun b x hx => ?_) (h2.put (C.ha _ h3.1)) ⟨Nat.le_trans h3.1 (by omega), fun x g1 g2 => (o1 x (Nat.lt_of_lt_of_le g1 h3.1)).trans (h3.2.1 x g1 g2), h3.2.2⟩ h4
  by_cases hb : b = H.size
  · subst hb
    rw [hU_s] at hx
    cases hx
    exact Or.inl e1
  · rw [hU_n hb] at hx
    exact (h1 b x hx).imp (fun z => z.kept (o1 b (h1.lt hx))) (fun z => ⟨z.1, hP.ltk z.2 (o1 b (h1.lt hx))⟩)
theorem g_newH {q N index : Nat} {i : Int32} (C : hC Γ l k own nm cc nL ret rm A) (hclink : Cond.classLink own index "HerbLoft$Hook" ∈ hTbl) (hi : i = nI N) (hN : N < 1000000) (hcells : n + 1 ≤ rm.cells) (hslots : z + N ≤ rm.slots) (d : decode cc pc = .ok (.anewarray index, 3)) (hq : pc + 3 = q) (kk : ∀ b : Nat, M b = none → hG Γ k A Q (hU M b (aH Γ N (fun _ => none))) (n + 1) (z + N) q L (.ref b :: st)) : hG Γ k A Q M n z pc L (.int i :: st) := by
  subst hq
  intro H locs ls h1 h2 h3 h4
  have hcl : i.toNatClampNeg = N := by rw [hi]; exact nI_clamp (by omega)
  refine W.anew C.ex C.cd C.ow (C.ts _ hclink) (va_AO.use C.hx.2.2.2.2.2.1) rfl d rfl (by rw [hi]; exact nI_pos (by omega)) (by rw [hcl]; show N * 4 ≤ _; omega) (by rw [C.ro]; exact hcells) (by rw [C.ro, hcl]; exact hslots) fun cA kA9 comp f1 f2 f3 f4 => ?_
  have hcA : cA = Γ.2.1 2 := Option.some.inj (f1.symm.trans (va_nmO (C.hk.2 2 _ rfl).2 rfl))
  subst hcA
  rw [hcl]
  generalize hH1 : H.push ({ cls := Γ.2.1 2, slots := Array.replicate N .null, vm := .none } : Cell) = H1
  have z1 : H1.size = H.size + 1 := by rw [← hH1, Array.size_push]
  have e1 : H1[H.size]? = some (arrV (Γ.2.1 2) N (fun _ => .null)) := by rw [← hH1, Array.getElem?_push_size, ← arrV_new]
  have o1 : ∀ q : Nat, q < H.size → H1[q]? = H[q]? := fun q hq => by rw [← hH1, Array.getElem?_push, if_neg (Nat.ne_of_lt hq)]
  refine kk H.size (h1.fresh (Nat.le_refl _)) H1 locs ls (fun b x hx => ?_) (h2.put (C.ha _ h3.1)) ⟨Nat.le_trans h3.1 (by omega), fun x g1 g2 => (o1 x (Nat.lt_of_lt_of_le g1 h3.1)).trans (h3.2.1 x g1 g2), h3.2.2⟩ h4
  by_cases hb : b = H.size
  · subst hb
    rw [hU_s] at hx
    cases hx
    refine Or.inl ?_
    show H1[H.size]? = some (vp_cell _ _)
    rw [vp_cell_q]
    exact e1
  · rw [hU_n hb] at hx
    exact (h1 b x hx).imp (fun z => z.kept (o1 b (h1.lt hx))) (fun z => ⟨z.1, hP.ltk z.2 (o1 b (h1.lt hx))⟩)
theorem g_newO {q N index : Nat} {i : Int32} (C : hC Γ l k own nm cc nL ret rm A) (hclink : Cond.classLink own index "java/lang/Object" ∈ hTbl) (hi : i = nI N) (hN : N < 1000000) (hcells : n + 1 ≤ rm.cells) (hslots : z + N ≤ rm.slots) (d : decode cc pc = .ok (.anewarray index, 3)) (hq : pc + 3 = q) (kk : ∀ b : Nat, M b = none → hG Γ k A Q (hU M b (aO Γ N (fun _ => none))) (n + 1) (z + N) q L (.ref b :: st)) : hG Γ k A Q M n z pc L (.int i :: st) := by
  subst hq
  intro H locs ls h1 h2 h3 h4
  have hcl : i.toNatClampNeg = N := by rw [hi]; exact nI_clamp (by omega)
  refine W.anew C.ex C.cd C.ow (C.ts _ hclink) (va_AO.use C.hx.2.2.2.2.2.2.1) rfl d rfl (by rw [hi]; exact nI_pos (by omega)) (by rw [hcl]; show N * 4 ≤ _; omega) (by rw [C.ro]; exact hcells) (by rw [C.ro, hcl]; exact hslots) fun cA kA9 comp f1 f2 f3 f4 => ?_
  have hcA : cA = Γ.2.1 3 := Option.some.inj (f1.symm.trans (va_nmO (C.hk.2 3 _ rfl).2 rfl))
  subst hcA
  rw [hcl]
  generalize hH1 : H.push ({ cls := Γ.2.1 3, slots := Array.replicate N .null, vm := .none } : Cell) = H1
  have z1 : H1.size = H.size + 1 := by rw [← hH1, Array.size_push]
  have e1 : H1[H.size]? = some (arrV (Γ.2.1 3) N (fun _ => .null)) := by rw [← hH1, Array.getElem?_push_size, ← arrV_new]
  have o1 : ∀ q : Nat, q < H.size → H1[q]? = H[q]? := fun q hq => by rw [← hH1, Array.getElem?_push, if_neg (Nat.ne_of_lt hq)]
  refine kk H.size (h1.fresh (Nat.le_refl _)) H1 locs ls (fun b x hx => ?_) (h2.put (C.ha _ h3.1)) ⟨Nat.le_trans h3.1 (by omega), fun x g1 g2 => (o1 x (Nat.lt_of_lt_of_le g1 h3.1)).trans (h3.2.1 x g1 g2), h3.2.2⟩ h4
  by_cases hb : b = H.size
  · subst hb
    rw [hU_s] at hx
    cases hx
    refine Or.inl ?_
    show H1[H.size]? = some (vp_cell _ _)
    rw [vp_cell_q]
    exact e1
  · rw [hU_n hb] at hx
    exact (h1 b x hx).imp (fun z => z.kept (o1 b (h1.lt hx))) (fun z => ⟨z.1, hP.ltk z.2 (o1 b (h1.lt hx))⟩)
/-- a cast that holds: the object is of the class itself -/
theorem g_cast {q a index ci : Nat} {w : Bool} {fs : List Value} {r : vw_C} (C : hC Γ l k own nm cc nL ret rm A) (hlink : Cond.classLink own index r.1 ∈ hTbl) (hc : vwCl[ci]? = some r) (hM : M a = some (w, .inr (ci, fs))) (d : decode cc pc = .ok (.checkcast index, 3)) (hq : pc + 3 = q) (kk : hG Γ k A Q M n z q L (.ref a :: st)) : hG Γ k A Q M n z pc L (.ref a :: st) := by
  subst hq
  intro H locs ls h1 h2 h3 h4
  exact va_castS C.ex C.cd C.ow (C.ts _ hlink) (C.hk.1 ci _ hc).2 (va_recv (D := Γ.1) (cl := vwCl) C.hk (h1.one hM) hc (q0 := 0) rfl) d (kk H locs ls h1 h2 h3 h4)
/-- int arrays copied -/
theorem g_copyi {q index a0 a n0 n1 : Nat} {w : Bool} {f g : Nat → Int32} {sp dp m : Int32} (C : hC Γ l k own nm cc nL ret rm A) (hlink : Cond.methodLink own index arraycopyName ∈ hTbl) (hw : Cond.native arraycopyName ∈ hTbl ∧ Cond.static arraycopyName ∈ hTbl ∧ Cond.initialized "java/lang/System" ∈ hTbl) (hsz : L.length = nL) (s9 d9 m9 : Nat) (e1 : sp = nI s9) (e2 : dp = nI d9) (e3 : m = nI m9) (l1 : s9 + m9 ≤ n0) (l2 : d9 + m9 ≤ n1) (b1 : n0 < 2 ^ 31) (b2 : n1 < 2 ^ 31) (hM0 : M a0 = some (w, aI Γ n0 f)) (hM1 : M a = some (true, aI Γ n1 g)) (hf : 1 ≤ rm.frames) (hlo : (st.map fun v => v.category).sum + (nativeFrameWords "java/lang/System" "arraycopy" 5 + 11) ≤ rm.locals) (d : decode cc pc = .ok (.invokestatic index, 3)) (hq : pc + 3 = q) (kk : hG Γ k A Q (hU M a (aI Γ n1 (va_cpy f g s9 d9 m9))) n z q L st) : hG Γ k A Q M n z pc L (.int m :: .int dp :: .ref a :: .int sp :: .ref a0 :: st) := by
  subst hq
  have c1 : sp.toNatClampNeg = s9 := by rw [e1]; exact nI_clamp (by omega)
  have c2 : dp.toNatClampNeg = d9 := by rw [e2]; exact nI_clamp (by omega)
  have c3 : m.toNatClampNeg = m9 := by rw [e3]; exact nI_clamp (by omega)
  have p1 : sp.toInt = (s9 : Int) := by rw [e1]; exact nI_toInt (by omega)
  have p2 : dp.toInt = (d9 : Int) := by rw [e2]; exact nI_toInt (by omega)
  have p3 : m.toInt = (m9 : Int) := by rw [e3]; exact nI_toInt (by omega)
  have t1 : ¬ sp < 0 := by rw [e1]; exact nI_pos (by omega)
  have t2 : ¬ dp < 0 := by rw [e2]; exact nI_pos (by omega)
  have t3 : ¬ m < 0 := by rw [e3]; exact nI_pos (by omega)
  intro H locs ls h1 h2 h3 h4 T hT X
  have hc0 : H[a0]? = some (vp_cell (Γ.2.1 0) (n0, .inl f)) := h1.trn hM0 (fun g9 q9 => nomatch (Prod.mk.inj (Prod.mk.inj q9).2).2)
  have hc1 : H[a]? = some (vp_cell (Γ.2.1 0) (n1, .inl g)) := h1.tr hM1
  obtain ⟨-, k0, hk0, cm0, hkk0⟩ := (C.hk.2 0 _ rfl).1 n0 (fun j => .int (f j))
  obtain ⟨-, k1, hk1, cm1, hkk1⟩ := (C.hk.2 0 _ rfl).1 n1 (fun j => .int (g j))
  obtain ⟨vm', X', step⟩ := X.arraycopy C.ex C.ow (C.ts _ hlink) (C.ts _ hw.1) (C.ts _ hw.2.1) (C.ts _ hw.2.2) (src := a0) (dst := a) (cs := vp_cell (Γ.2.1 0) (n0, .inl f)) (cd := vp_cell (Γ.2.1 0) (n1, .inl g)) (srcPos := sp) (destPos := dp) (n := m) (by rw [hT]; exact hc0) (by rw [hT]; exact hc1)
    (fun _ h => by cases h) (fun _ h => by cases h) (fun h => by cases h) (fun h => by cases h) hk0 hk1 hkk0 hkk1 (by simp [refKind]) t1 t2 t3
    (by rw [p1, p3]; show ¬ _ > ((arrV (Γ.2.1 0) n0 (fun j => .int (f j))).slots.size : Int); rw [arrV_size]; omega)
    (by rw [p2, p3]; show ¬ _ > ((arrV (Γ.2.1 0) n1 (fun j => .int (g j))).slots.size : Int); rw [arrV_size]; omega)
    (fun vm₁ _ i hi => by
      have e : (vp_cell (Γ.2.1 0) (n0, .inl f)).slots.getD (sp.toNatClampNeg + i) .null = .int (f (sp.toNatClampNeg + i)) := by
        show (arrV (Γ.2.1 0) n0 (fun j => .int (f j))).slots.getD _ _ = _
        rw [Array.getD_eq_getD_getElem?, arrV_read _ _ (by omega)]
        rfl
      refine ⟨?_, ?_⟩
      · rw [e]
        rfl
      · rw [e]
        exact trivial)
    (g := F0 (kM k) pc ls (.int m :: .int dp :: .ref a :: .int sp :: .ref a0 :: st)) rfl (by rw [C.ml, ← hsz]; exact h4.1) (rest := st) rfl (by rw [C.cd]; exact d) (by rw [C.ro]; exact hf) (by rw [C.ro]; show 2 * 0 + _ + _ ≤ _; omega)
  have ec : copied (vp_cell (Γ.2.1 0) (n0, .inl f)) (vp_cell (Γ.2.1 0) (n1, .inl g)) sp dp m = vp_cell (Γ.2.1 0) (n1, .inl (va_cpy f g s9 d9 m9)) := by
    rw [← c1, ← c2, ← c3]
    exact va_copied (fun z => .int z) (Γ.2.1 0) (Γ.2.1 0) f g (by rw [c1, c3]; exact l1)
  rw [ec] at X' step
  have hl : a < H.size := (Array.getElem?_eq_some_iff.mp hc1).1
  have oq : ∀ q : Nat, q ≠ a → (H.setIfInBounds a (vp_cell (Γ.2.1 0) (n1, .inl (va_cpy f g s9 d9 m9))))[q]? = H[q]? := fun q hq => by simp [Array.getElem?_setIfInBounds, Ne.symm hq]
  have hAa : A a := h2 a _ hM1
  obtain ⟨t, a1, b9⟩ := kk (H.setIfInBounds a (vp_cell (Γ.2.1 0) (n1, .inl (va_cpy f g s9 d9 m9)))) _ ls (h1.put (show (H.setIfInBounds a _)[a]? = some _ by simp [Array.getElem?_setIfInBounds, hl]) oq) (h2.put hAa) ⟨by simp; exact h3.1, fun q g1 g2 => by
      rw [oq q (fun e => g2 (by rw [e]; exact hAa))]
      exact h3.2.1 q g1 g2, fun q hq => by
      rcases List.mem_append.mp hq with h | h
      · exact h3.2.2 q h
      · obtain ⟨z, -, hz⟩ := List.mem_map.mp h
        rw [← hz]
        exact hAa⟩ h4 _ (by rw [← hT]; rfl) X'
  exact ⟨t, step t a1, b9⟩
end hRows2
