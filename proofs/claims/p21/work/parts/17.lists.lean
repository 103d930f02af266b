/-! ===== java/util/ArrayList ===== -/
section hRows6
variable {Γ : hGam} {l : Launch} {k : hCtx} {own nm : String} {cc : ByteArray} {nL : Nat} {ret : Option FieldType} {rm : Room} {A : Nat → Prop} {Q : State → Prop} {M : hM} {n z pc : Nat} {L : List (Option Value)} {st : List Value}
theorem g_gets0 {q index : Nat} (C : hC Γ l k own nm cc nL ret rm A) (hlink : Cond.fieldLink own index "java/util/ArrayList" "DEFAULTCAPACITY_EMPTY_ELEMENTDATA" "[Ljava/lang/Object;" ∈ hTbl) (d : decode cc pc = .ok (.getstatic index, 3)) (hq : pc + 3 = q) (kk : hG Γ k A Q M n z q L (.ref Γ.2.2.1 :: st)) : hG Γ k A Q M n z pc L st := by
  subst hq
  intro H locs ls h1 h2 h3 h4
  exact va_gets C.ex C.cd C.hx.1 h3 C.ow (C.ts _ hlink) (fun _ h => h) d (kk H locs ls h1 h2 h3 h4)
variable {Cn ref : String} {T : u_T} {N ci index a : Nat} {ty : Nat → FieldType} {w : Bool} {fs : List Value} {v : Value}
theorem g_getS {q : Nat} (C : hC Γ l k own nm cc nL ret rm A) (K : hCls ci Cn T N ty) (j : Nat) (hj : j < N) (hlink : Cond.fieldLink own index ref (T j).2.1 (T j).2.2.1 ∈ hTbl) (hsame : Cond.sameField ref (T j).1 (T j).2.1 (T j).2.2.1 ∈ hTbl) (d : decode cc pc = .ok (.getfield index, 3)) (hM : M a = some (w, .inr (ci, fs))) (hv : fs[j]? = some v) (hq : pc + 3 = q) (kk : hG Γ k A Q M n z q L (v :: st)) : hG Γ k A Q M n z pc L (.ref a :: st) := by
  subst hq
  intro H locs ls h1 h2 h3 h4
  exact va_get (D := Γ.1) (cl := vwCl) C.ex C.cd C.ts K.1 C.ow C.hk (h1.one hM) 0 rfl K.2.2.2 j hj (C.ts _ hlink) (fun x hx => u_same (C.ts _ hsame) x hx) hv d (kk H locs ls h1 h2 h3 h4)
theorem g_putS {q : Nat} (C : hC Γ l k own nm cc nL ret rm A) (K : hCls ci Cn T N ty) (j : Nat) (hj : j < N) (hlink : Cond.fieldLink own index ref (T j).2.1 (T j).2.2.1 ∈ hTbl) (hsame : Cond.sameField ref (T j).1 (T j).2.1 (T j).2.2.1 ∈ hTbl) (hfin : (T j).2.2.2 = false) (hn : narrow (ty j) v = v) (hfit : fits (ty j) v = true) (d : decode cc pc = .ok (.putfield index, 3)) (hM : M a = some (true, .inr (ci, fs))) (hl : j < fs.length) (hq : pc + 3 = q) (kk : hG Γ k A Q (hU M a (.inr (ci, fs.set j v))) n z q L st) : hG Γ k A Q M n z pc L (v :: .ref a :: st) := by
  subst hq
  intro H locs ls h1 h2 h3 h4
  obtain ⟨hin, hty, hnm, hc⟩ := K
  have hap := va_apart (own := own) (D := Γ.1) (cl := vwCl) C.ts hin ty hty hnm C.hk hc
  obtain ⟨r, g1, cell, q1, q2, q3, q4⟩ := h1.tr hM
  have hr : r = (Cn, T, N) := Option.some.inj (g1.symm.trans hc)
  subst hr
  obtain ⟨hS, hfc, kC9, hkC, hkind⟩ := C.hk.1 ci _ hc
  obtain ⟨cf, kf, fi, f, hi, hsl⟩ := hS j hj
  have hlay := C.ts _ (hin _ (u_in_lay hj))
  unfold u_lay at hlay
  rw [if_neg (by rw [hfin]; decide)] at hlay
  have hst := (u_facts hfc hkC (u_lays C.ts hin hj) hi).1
  have h6 := u_store hfc hkC hkind hlay hi (hty j hj) hn hfit
  refine W.putK C.ex C.cd (f := f) ⟨C.ow, C.ts _ hlink, ⟨_, _, _, u_same (C.ts _ hsame) _ hi⟩, hst⟩ (by rw [q2]; exact h6) q1 q3 (by rw [hsl]; exact k2_hasslot (q4 j hj)) rfl rfl d fun H' e1 e2 e3 => ?_
  rw [hsl] at e1 ⊢
  refine kk H' _ ls (h1.put ⟨_, hc, t_OB.to (V := updV (vp_V fs) j v) ⟨_, e1, q2, q3, t_set q4 hap hj v⟩ (fun i _ => vp_updV_set hl v i)⟩ e3) (h2.put (h2 a _ hM)) (h3.put e2 e3 (h2 a _ hM)) h4
end hRows6
/-- the list at a, over the array at ed: n things, e of them by their places; the empty array is only read -/
def lsP (Γ : hGam) (M : hM) (a ed n : Nat) (e : Nat → Nat) : Prop :=
  ∃ (mod : Int32) (w : Bool) (cap : Nat) (g : Nat → Option Nat), M a = some (true, oList mod (some ed) (nI n)) ∧ M ed = some (w, aO Γ cap g) ∧ (∀ i, i < n → g i = some (e i)) ∧ n ≤ 6 ∧ ((w = false ∧ cap = 0 ∧ n = 0 ∧ ed = Γ.2.2.1) ∨ (w = true ∧ cap = 10))
theorem lsP.off {Γ : hGam} {M M1 : hM} {a ed n : Nat} {e : Nat → Nat} (h : lsP Γ M a ed n e) {S : Nat → Prop} (ho : hOff M M1 S) (h1 : ¬ S a) (h2 : ¬ S ed) : lsP Γ M1 a ed n e := by
  obtain ⟨mod, w, cap, g, a1, a2, a3⟩ := h
  exact ⟨mod, w, cap, g, (ho _ h1).trans a1, (ho _ h2).trans a2, a3⟩
set_option maxRecDepth 100000 in
set_option maxHeartbeats 4000000 in
theorem c_Jxa1e45_init_da8c8 (Γ : hGam) (l : Launch) {M : hM} {x : Nat} : hMet Γ l yJxa1e45_init_da8c8 cJxa1e45_init_da8c8 1 none rm_Jxa1e45_init_da8c8 [.ref x] M (hpV (fun M1 => M1 = M)) := by
  refine hMet_of (by decide +kernel) (Nat.le_of_ble_eq_true rfl) (hCat_cons rfl hCat_nil) (fun k C => ?_)
  show hG _ _ _ _ _ _ _ _ [some (.ref x)] _
  refine g_aload_n (q := 1) C dJxa1e45_init_da8c8_0 rfl (by first | exact hRef_r _ | exact hRef_o _ | exact hRef_n) rfl ?_
  refine g_objInit (q := 4) C qw_50 qw_37 qw_38 rfl dJxa1e45_init_da8c8_1 (by decide) (by decide) rfl ?_
  exact g_vret C dJxa1e45_init_da8c8_4 (rfl) (Nat.zero_le _) (Nat.zero_le _)
set_option maxRecDepth 100000 in
set_option maxHeartbeats 4000000 in
theorem c_Jxc12de_init_da8c8 (Γ : hGam) (l : Launch) {M : hM} {x : Nat} {ed : Option Nat} {n : Int32} (h0 : M x = some (true, oList 0 ed n)) : hMet Γ l yJxc12de_init_da8c8 cJxc12de_init_da8c8 1 none rm_Jxc12de_init_da8c8 [.ref x] M (hpV (fun M1 => M1 = M)) := by
  refine hMet_of (by decide +kernel) (Nat.le_of_ble_eq_true rfl) (hCat_cons rfl hCat_nil) (fun k C => ?_)
  show hG _ _ _ _ _ _ _ _ [some (.ref x)] _
  refine g_aload_n (q := 1) C dJxc12de_init_da8c8_0 rfl (by first | exact hRef_r _ | exact hRef_o _ | exact hRef_n) rfl ?_
  refine g_callI0V (q := 4) C hy_Jxa1e45_init_da8c8 (c_Jxa1e45_init_da8c8 Γ l) qw_47 ⟨Nat.le_of_ble_eq_true rfl, Nat.le_of_ble_eq_true rfl⟩ (Nat.le_of_ble_eq_true rfl) rfl dJxc12de_init_da8c8_1 ⟨rfl, rfl⟩ ⟨Nat.zero_le _, Nat.zero_le _⟩ rfl (fun M_1 p_1 => ?_)
  subst p_1
  refine g_aload_n (q := 5) C dJxc12de_init_da8c8_4 rfl (by first | exact hRef_r _ | exact hRef_o _ | exact hRef_n) rfl ?_
  refine g_iconst (q := 6) (0) C dJxc12de_init_da8c8_5 (by decide) rfl ?_
  refine g_put (q := 9) C hcl_Jx4a65c 0 (by decide) qw_55 rfl rfl rfl rfl dJxc12de_init_da8c8_6 (by exact h0) (Nat.le_of_ble_eq_true rfl) rfl ?_
  exact g_vret C dJxc12de_init_da8c8_9 (hU_same h0) (Nat.zero_le _) (Nat.zero_le _)
set_option maxRecDepth 100000 in
set_option maxHeartbeats 4000000 in
theorem c_Jx4a65c_init_da8c8 (Γ : hGam) (l : Launch) {M : hM} {x : Nat} (h0 : M x = some (true, oList 0 none 0)) : hMet Γ l yJx4a65c_init_da8c8 cJx4a65c_init_da8c8 1 none rm_Jx4a65c_init_da8c8 [.ref x] M (hpV (fun M1 => M1 = hU M x (oList 0 (some Γ.2.2.1) 0))) := by
  refine hMet_of (by decide +kernel) (Nat.le_of_ble_eq_true rfl) (hCat_cons rfl hCat_nil) (fun k C => ?_)
  show hG _ _ _ _ _ _ _ _ [some (.ref x)] _
  refine g_aload_n (q := 1) C dJx4a65c_init_da8c8_0 rfl (by first | exact hRef_r _ | exact hRef_o _ | exact hRef_n) rfl ?_
  refine g_callI0V (q := 4) C hy_Jxc12de_init_da8c8 (c_Jxc12de_init_da8c8 Γ l h0) qw_44 ⟨Nat.le_of_ble_eq_true rfl, Nat.le_of_ble_eq_true rfl⟩ (Nat.le_of_ble_eq_true rfl) rfl dJx4a65c_init_da8c8_1 ⟨rfl, rfl⟩ ⟨Nat.zero_le _, Nat.zero_le _⟩ rfl (fun M_1 p_1 => ?_)
  subst p_1
  refine g_aload_n (q := 5) C dJx4a65c_init_da8c8_4 rfl (by first | exact hRef_r _ | exact hRef_o _ | exact hRef_n) rfl ?_
  refine g_gets0 (q := 8) C qw_51 dJx4a65c_init_da8c8_5 rfl ?_
  refine g_put (q := 11) C hcl_Jx4a65c 1 (by decide) qw_53 rfl rfl rfl rfl dJx4a65c_init_da8c8_8 (by exact h0) (Nat.le_of_ble_eq_true rfl) rfl ?_
  (try rw [hU_2])
  exact g_vret C dJx4a65c_init_da8c8_11 (rfl) (Nat.zero_le _) (Nat.zero_le _)
set_option maxRecDepth 100000 in
set_option maxHeartbeats 4000000 in
theorem c_Jx4a65c_size_8abf5 (Γ : hGam) (l : Launch) {M : hM} {a ed n : Nat} {e : Nat → Nat} (hl : lsP Γ M a ed n e) : hMet Γ l yJx4a65c_size_8abf5 cJx4a65c_size_8abf5 1 (some .int) rm_Jx4a65c_size_8abf5 [.ref a] M (hpP M (nI n)) := by
  obtain ⟨mod, w, cap, g, a1, a2, a3, a4, a5⟩ := hl
  refine hMet_of (by decide +kernel) (Nat.le_of_ble_eq_true rfl) (hCat_cons rfl hCat_nil) (fun k C => ?_)
  show hG _ _ _ _ _ _ _ _ [some (.ref a)] _
  refine g_aload_n (q := 1) C dJx4a65c_size_8abf5_0 rfl (by first | exact hRef_r _ | exact hRef_o _ | exact hRef_n) rfl ?_
  refine g_get (q := 4) C hcl_Jx4a65c 2 (by decide) qw_54 rfl dJx4a65c_size_8abf5_1 (by exact a1) rfl rfl ?_
  exact g_iret C dJx4a65c_size_8abf5_4 (⟨rfl, rfl⟩) (Nat.zero_le _) (Nat.zero_le _)
set_option maxRecDepth 100000 in
set_option maxHeartbeats 4000000 in
theorem c_J3_checkIndex_8e157 (Γ : hGam) (l : Launch) {M : hM} (i n : Nat) (hi : i < n) (hn : n < 2 ^ 31) : hMet Γ l yJ3_checkIndex_8e157 cJ3_checkIndex_8e157 3 (some .int) rm_J3_checkIndex_8e157 [.int (nI i), .int (nI n), .null] M (hpP M (nI i)) := by
  refine hMet_of (by decide +kernel) (Nat.le_of_ble_eq_true rfl) (hCat_cons rfl (hCat_cons rfl (hCat_cons rfl hCat_nil))) (fun k C => ?_)
  show hG _ _ _ _ _ _ _ _ [some (.int (nI i)), some (.int (nI n)), some (.null)] _
  refine g_iload_n (q := 1) C dJ3_checkIndex_8e157_0 rfl rfl ?_
  refine g_if_lt (t := 9) (q := 4) C dJ3_checkIndex_8e157_1 (by decide) rfl (fun c_1 => ?_) (fun c_1 => ?_)
  · skip
    exact absurd c_1 (nI_pos (by omega))
  · skip
    refine g_iload_n (q := 5) C dJ3_checkIndex_8e157_4 rfl rfl ?_
    refine g_iload_n (q := 6) C dJ3_checkIndex_8e157_5 rfl rfl ?_
    refine g_icmp_lt (t := 16) (q := 9) C dJ3_checkIndex_8e157_6 (by decide) rfl (fun c_6 => ?_) (fun c_6 => ?_)
    · skip
      refine g_iload_n (q := 17) C dJ3_checkIndex_8e157_16 rfl rfl ?_
      exact g_iret C dJ3_checkIndex_8e157_17 (⟨rfl, rfl⟩) (Nat.zero_le _) (Nat.zero_le _)
    · skip
      exact absurd (nI_lt hi hn) c_6
set_option maxRecDepth 100000 in
set_option maxHeartbeats 4000000 in
theorem c_J15_checkIndex_7cf53 (Γ : hGam) (l : Launch) {M : hM} (i n : Nat) (hi : i < n) (hn : n < 2 ^ 31) : hMet Γ l yJ15_checkIndex_7cf53 cJ15_checkIndex_7cf53 2 (some .int) rm_J15_checkIndex_7cf53 [.int (nI i), .int (nI n)] M (hpP M (nI i)) := by
  refine hMet_of (by decide +kernel) (Nat.le_of_ble_eq_true rfl) (hCat_cons rfl (hCat_cons rfl hCat_nil)) (fun k C => ?_)
  show hG _ _ _ _ _ _ _ _ [some (.int (nI i)), some (.int (nI n))] _
  refine g_iload_n (q := 1) C dJ15_checkIndex_7cf53_0 rfl rfl ?_
  refine g_iload_n (q := 2) C dJ15_checkIndex_7cf53_1 rfl rfl ?_
  refine g_null (q := 3) C dJ15_checkIndex_7cf53_2 rfl ?_
  refine g_callS3P (q := 6) C hy_J3_checkIndex_8e157 (c_J3_checkIndex_8e157 Γ l i n hi hn) qw_282 ⟨Nat.le_of_ble_eq_true rfl, Nat.le_of_ble_eq_true rfl⟩ (Nat.le_of_ble_eq_true rfl) rfl dJ15_checkIndex_7cf53_3 ⟨rfl, rfl⟩ ⟨Nat.zero_le _, Nat.zero_le _⟩ rfl ?_
  exact g_iret C dJ15_checkIndex_7cf53_6 (⟨rfl, rfl⟩) (Nat.zero_le _) (Nat.zero_le _)
set_option maxRecDepth 100000 in
set_option maxHeartbeats 4000000 in
theorem c_Jx4a65c_elementData_915e3 (Γ : hGam) (l : Launch) {M : hM} {a ed n : Nat} {e : Nat → Nat} (i : Nat) (hl : lsP Γ M a ed n e) (hi : i < n) : hMet Γ l yJx4a65c_elementData_915e3 cJx4a65c_elementData_915e3 2 (some (.object "java/lang/Object")) rm_Jx4a65c_elementData_915e3 [.ref a, .int (nI i)] M (hpO M (some (e i))) := by
  obtain ⟨mod, w, cap, g, a1, a2, a3, a4, a5⟩ := hl
  have hcap : i < cap := by rcases a5 with ⟨-, -, q, -⟩ | ⟨-, q⟩ <;> omega
  have hc31 : cap < 2 ^ 31 := by rcases a5 with ⟨-, q, -, -⟩ | ⟨-, q⟩ <;> omega
  refine hMet_of (by decide +kernel) (Nat.le_of_ble_eq_true rfl) (hCat_cons rfl (hCat_cons rfl hCat_nil)) (fun k C => ?_)
  show hG _ _ _ _ _ _ _ _ [some (.ref a), some (.int (nI i))] _
  refine g_aload_n (q := 1) C dJx4a65c_elementData_915e3_0 rfl (by first | exact hRef_r _ | exact hRef_o _ | exact hRef_n) rfl ?_
  refine g_get (q := 4) C hcl_Jx4a65c 1 (by decide) qw_53 rfl dJx4a65c_elementData_915e3_1 (by exact a1) rfl rfl ?_
  refine g_iload_n (q := 5) C dJx4a65c_elementData_915e3_4 rfl rfl ?_
  refine g_aaldO (q := 6) C i rfl hcap hc31 dJx4a65c_elementData_915e3_5 (by exact a2) rfl ?_
  rw [a3 i hi]
  exact g_aret C dJx4a65c_elementData_915e3_6 (by first | exact Or.inl ⟨_, rfl⟩ | exact Or.inr ⟨_, rfl⟩) rfl (⟨rfl, rfl⟩) (Nat.zero_le _) (Nat.zero_le _)
set_option maxRecDepth 100000 in
set_option maxHeartbeats 4000000 in
theorem c_Jx4a65c_get_915e3 (Γ : hGam) (l : Launch) {M : hM} {a ed n : Nat} {e : Nat → Nat} (i : Nat) (hl : lsP Γ M a ed n e) (hi : i < n) : hMet Γ l yJx4a65c_get_915e3 cJx4a65c_get_915e3 2 (some (.object "java/lang/Object")) rm_Jx4a65c_get_915e3 [.ref a, .int (nI i)] M (hpO M (some (e i))) := by
  have hl2 := hl
  obtain ⟨mod, w, cap, g, a1, a2, a3, a4, a5⟩ := hl2
  refine hMet_of (by decide +kernel) (Nat.le_of_ble_eq_true rfl) (hCat_cons rfl (hCat_cons rfl hCat_nil)) (fun k C => ?_)
  show hG _ _ _ _ _ _ _ _ [some (.ref a), some (.int (nI i))] _
  refine g_iload_n (q := 1) C dJx4a65c_get_915e3_0 rfl rfl ?_
  refine g_aload_n (q := 2) C dJx4a65c_get_915e3_1 rfl (by first | exact hRef_r _ | exact hRef_o _ | exact hRef_n) rfl ?_
  refine g_get (q := 5) C hcl_Jx4a65c 2 (by decide) qw_54 rfl dJx4a65c_get_915e3_2 (by exact a1) rfl rfl ?_
  refine g_callS2P (q := 8) C hy_J15_checkIndex_7cf53 (c_J15_checkIndex_7cf53 Γ l i n hi (by omega)) qw_279 ⟨Nat.le_of_ble_eq_true rfl, Nat.le_of_ble_eq_true rfl⟩ (Nat.le_of_ble_eq_true rfl) rfl dJx4a65c_get_915e3_5 ⟨rfl, rfl⟩ ⟨Nat.zero_le _, Nat.zero_le _⟩ rfl ?_
  refine g_pop (q := 9) C dJx4a65c_get_915e3_8 rfl rfl ?_
  refine g_aload_n (q := 10) C dJx4a65c_get_915e3_9 rfl (by first | exact hRef_r _ | exact hRef_o _ | exact hRef_n) rfl ?_
  refine g_iload_n (q := 11) C dJx4a65c_get_915e3_10 rfl rfl ?_
  refine g_callV1O (q := 14) C hy_Jx4a65c_elementData_915e3 (c_Jx4a65c_elementData_915e3 Γ l i hl hi) qw_285 (by exact a1) rfl ⟨Nat.le_of_ble_eq_true rfl, Nat.le_of_ble_eq_true rfl⟩ (Nat.le_of_ble_eq_true rfl) rfl dJx4a65c_get_915e3_11 ⟨rfl, rfl⟩ ⟨Nat.zero_le _, Nat.zero_le _⟩ rfl ?_
  exact g_aret C dJx4a65c_get_915e3_14 (by first | exact Or.inl ⟨_, rfl⟩ | exact Or.inr ⟨_, rfl⟩) rfl (⟨rfl, rfl⟩) (Nat.zero_le _) (Nat.zero_le _)
set_option maxRecDepth 100000 in
set_option maxHeartbeats 4000000 in
theorem c_Jx4a65c_grow_92f84 (Γ : hGam) (l : Launch) {M : hM} {a : Nat} {mod s : Int32} {g : Nat → Option Nat} (h0 : M a = some (true, oList mod (some Γ.2.2.1) s)) (h1 : M Γ.2.2.1 = some (false, aO Γ 0 g)) : hMet Γ l yJx4a65c_grow_92f84 cJx4a65c_grow_92f84 4 (some (.array (.object "java/lang/Object"))) rm_Jx4a65c_grow_92f84 [.ref a, .int 1] M (hpQ (fun o M1 => ∃ b : Nat, o = some b ∧ M b = none ∧ M1 = hU (hU M b (aO Γ 10 (fun _ => none))) a (oList mod (some b) s))) := by
  refine hMet_of (by decide +kernel) (Nat.le_of_ble_eq_true rfl) (hCat_cons rfl (hCat_cons rfl hCat_nil)) (fun k C => ?_)
  show hG _ _ _ _ _ _ _ _ [some (.ref a), some (.int 1), none, none] _
  refine g_aload_n (q := 1) C dJx4a65c_grow_92f84_0 rfl (by first | exact hRef_r _ | exact hRef_o _ | exact hRef_n) rfl ?_
  refine g_get (q := 4) C hcl_Jx4a65c 1 (by decide) qw_53 rfl dJx4a65c_grow_92f84_1 (by exact h0) rfl rfl ?_
  refine g_alenO (q := 5) C dJx4a65c_grow_92f84_4 (by exact h1) rfl ?_
  refine g_istore2 (q := 6) C dJx4a65c_grow_92f84_5 (by first | rfl | exact hNw_rf _) rfl ?_
  refine g_iload_n (q := 7) C dJx4a65c_grow_92f84_6 rfl rfl ?_
  refine g_if_gt (t := 20) (q := 10) C dJx4a65c_grow_92f84_7 (by decide) rfl (fun c_7 => ?_) (fun c_7 => ?_)
  · skip
    exact absurd c_7 (by decide)
  · skip
    refine g_aload_n (q := 11) C dJx4a65c_grow_92f84_10 rfl (by first | exact hRef_r _ | exact hRef_o _ | exact hRef_n) rfl ?_
    refine g_get (q := 14) C hcl_Jx4a65c 1 (by decide) qw_53 rfl dJx4a65c_grow_92f84_11 (by exact h0) rfl rfl ?_
    refine g_gets0 (q := 17) C qw_51 dJx4a65c_grow_92f84_14 rfl ?_
    refine g_acmp_eq (t := 45) (q := 20) C dJx4a65c_grow_92f84_17 (rx := some Γ.2.2.1) (ry := some Γ.2.2.1) rfl rfl (by decide) rfl (fun c_17 => ?_) (fun c_17 => ?_)
    · (try subst c_17)
      refine g_aload_n (q := 46) C dJx4a65c_grow_92f84_45 rfl (by first | exact hRef_r _ | exact hRef_o _ | exact hRef_n) rfl ?_
      refine g_bipush (q := 48) (10) C dJx4a65c_grow_92f84_46 (by decide) rfl ?_
      refine g_iload_n (q := 49) C dJx4a65c_grow_92f84_48 rfl rfl ?_
      refine g_max (q := 52) C qw_623 rfl dJx4a65c_grow_92f84_49 (by decide) (Nat.le_of_ble_eq_true rfl) ((by decide)) ((by decide)) rfl hw_max ?_
      refine g_newO (q := 55) C qw_624 (N := 10) rfl (by decide) (by decide) (by decide) dJx4a65c_grow_92f84_52 rfl (fun b eb => ?_)
      refine g_dup_x1 (q := 56) C dJx4a65c_grow_92f84_55 rfl rfl rfl ?_
      refine g_put (q := 59) C hcl_Jx4a65c 1 (by decide) qw_53 rfl rfl rfl rfl dJx4a65c_grow_92f84_56 (by exact (hU_n (fun q => by rw [← q, h0] at eb; cases eb)).trans h0) (Nat.le_of_ble_eq_true rfl) rfl ?_
      (try rw [hU_2])
      exact g_aret C dJx4a65c_grow_92f84_59 (by first | exact Or.inl ⟨_, rfl⟩ | exact Or.inr ⟨_, rfl⟩) rfl (⟨b, rfl, eb, rfl⟩) (by decide) (by decide)
    · skip
      exact absurd rfl c_17
set_option maxRecDepth 100000 in
set_option maxHeartbeats 4000000 in
theorem c_Jx4a65c_grow_d5877 (Γ : hGam) (l : Launch) {M : hM} {a : Nat} {mod s : Int32} {g : Nat → Option Nat} (h0 : M a = some (true, oList mod (some Γ.2.2.1) s)) (h1 : M Γ.2.2.1 = some (false, aO Γ 0 g)) (hs : s + 1 = 1) : hMet Γ l yJx4a65c_grow_d5877 cJx4a65c_grow_d5877 1 (some (.array (.object "java/lang/Object"))) rm_Jx4a65c_grow_d5877 [.ref a] M (hpQ (fun o M1 => ∃ b : Nat, o = some b ∧ M b = none ∧ M1 = hU (hU M b (aO Γ 10 (fun _ => none))) a (oList mod (some b) s))) := by
  refine hMet_of (by decide +kernel) (Nat.le_of_ble_eq_true rfl) (hCat_cons rfl hCat_nil) (fun k C => ?_)
  show hG _ _ _ _ _ _ _ _ [some (.ref a)] _
  refine g_aload_n (q := 1) C dJx4a65c_grow_d5877_0 rfl (by first | exact hRef_r _ | exact hRef_o _ | exact hRef_n) rfl ?_
  refine g_aload_n (q := 2) C dJx4a65c_grow_d5877_1 rfl (by first | exact hRef_r _ | exact hRef_o _ | exact hRef_n) rfl ?_
  refine g_get (q := 5) C hcl_Jx4a65c 2 (by decide) qw_54 rfl dJx4a65c_grow_d5877_2 (by exact h0) rfl rfl ?_
  refine g_iconst (q := 6) (1) C dJx4a65c_grow_d5877_5 (by decide) rfl ?_
  refine g_iadd (q := 7) C dJx4a65c_grow_d5877_6 rfl ?_
  rw [hs]
  refine g_callV1Qm (q := 10) C hy_Jx4a65c_grow_92f84 (c_Jx4a65c_grow_92f84 Γ l h0 h1) qw_584 (by exact h0) rfl ⟨Nat.le_of_ble_eq_true rfl, Nat.le_of_ble_eq_true rfl⟩ (Nat.le_of_ble_eq_true rfl) rfl dJx4a65c_grow_d5877_7 ⟨(by decide), (by decide)⟩ rfl (fun x_7 M_7 p_7 => ?_)
  exact g_aret C dJx4a65c_grow_d5877_10 (by first | exact Or.inl ⟨_, rfl⟩ | exact Or.inr ⟨_, rfl⟩) rfl (p_7) (by decide) (by decide)
theorem list_put {Γ : hGam} {M1 : hM} {a ed n v : Nat} {e : Nat → Nat} {mod : Int32} {g : Nat → Option Nat} (hn : n < 6) (h1 : M1 a = some (true, oList mod (some ed) (nI n))) (h2 : M1 ed = some (true, aO Γ 10 g)) (h3 : ∀ i, i < n → g i = some (e i)) :
    lsP Γ (hU (hU M1 ed (aO Γ 10 (va_up g n (some v)))) a (oList mod (some ed) (nI n + 1))) a ed (n + 1) (fUp e n v) := by
  have hne : ed ≠ a := fun q => by rw [q, h1] at h2; cases h2
  refine ⟨mod, true, 10, va_up g n (some v), by rw [hU_s, nI_1], by rw [hU_n hne, hU_s], fun i hi => ?_, by omega, Or.inr ⟨rfl, rfl⟩⟩
  by_cases hin : i = n
  · subst hin; rw [va_up_self, fUp_s]
  · rw [va_up_ne _ _ hin, fUp_n hin]; exact h3 i (by omega)
set_option maxRecDepth 100000 in
set_option maxHeartbeats 4000000 in
theorem c_Jx4a65c_add_72be8 (Γ : hGam) (l : Launch) {M : hM} {a ed n v : Nat} {e : Nat → Nat} {ci : Nat} {wv : Bool} {r : vw_C} {vs : List Value} (hl : lsP Γ M a ed n e) (hn : n < 6) (hv : M v = some (wv, .inr (ci, vs))) (hc : vwCl[ci]? = some r) (hcast : Cond.castable r.1 "java/lang/Object" ∈ hNest) (hvna : v ≠ a) (hro : ed = Γ.2.2.1 → ∀ x, M ed ≠ some (true, x)) : hMet Γ l yJx4a65c_add_72be8 cJx4a65c_add_72be8 4 none rm_Jx4a65c_add_72be8 [.ref a, .ref v, .ref ed, .int (nI n)] M (hpV (fun M1 => ∃ ed2 : Nat, lsP Γ M1 a ed2 (n + 1) (fUp e n v) ∧ (ed2 = ed ∨ M ed2 = none) ∧ hOff M M1 (fun q => q = a ∨ (q = ed ∧ ed ≠ Γ.2.2.1) ∨ M q = none))) := by
  obtain ⟨mod, w, cap, g, a1, a2, a3, a4, a5⟩ := hl
  have hea : a ≠ ed := fun q => by rw [← q, a1] at a2; cases a2
  have hva : v ≠ a := hvna
  refine hMet_of (by decide +kernel) (Nat.le_of_ble_eq_true rfl) (hCat_cons rfl (hCat_cons rfl (hCat_cons rfl (hCat_cons rfl hCat_nil)))) (fun k C => ?_)
  show hG _ _ _ _ _ _ _ _ [some (.ref a), some (.ref v), some (.ref ed), some (.int (nI n))] _
  refine g_iload_n (q := 1) C dJx4a65c_add_72be8_0 rfl rfl ?_
  refine g_aload_n (q := 2) C dJx4a65c_add_72be8_1 rfl (by first | exact hRef_r _ | exact hRef_o _ | exact hRef_n) rfl ?_
  refine g_alenO (q := 3) C dJx4a65c_add_72be8_2 (by exact a2) rfl ?_
  refine g_icmp_ne (t := 11) (q := 6) C dJx4a65c_add_72be8_3 (by decide) rfl (fun c_3 => ?_) (fun c_3 => ?_)
  · skip
    have hcap : w = true ∧ cap = 10 := by
      rcases a5 with ⟨q1, q2, q3, q4⟩ | q
      · subst q2; subst q3; exact absurd rfl c_3
      · exact q
    obtain ⟨rfl, rfl⟩ := hcap
    refine g_aload_n (q := 12) C dJx4a65c_add_72be8_11 rfl (by first | exact hRef_r _ | exact hRef_o _ | exact hRef_n) rfl ?_
    refine g_iload_n (q := 13) C dJx4a65c_add_72be8_12 rfl rfl ?_
    refine g_aload_n (q := 14) C dJx4a65c_add_72be8_13 rfl (by first | exact hRef_r _ | exact hRef_o _ | exact hRef_n) rfl ?_
    refine g_aastO (q := 15) (N := 10) C _ rfl (by omega) (by decide) dJx4a65c_add_72be8_14 (by first | exact a2 | exact hMb) (by first | exact hv | exact ((hU_n hva).trans (hU_n hbv)).trans hv) hc hcast rfl ?_
    refine g_aload_n (q := 16) C dJx4a65c_add_72be8_15 rfl (by first | exact hRef_r _ | exact hRef_o _ | exact hRef_n) rfl ?_
    refine g_iload_n (q := 17) C dJx4a65c_add_72be8_16 rfl rfl ?_
    refine g_iconst (q := 18) (1) C dJx4a65c_add_72be8_17 (by decide) rfl ?_
    refine g_iadd (q := 19) C dJx4a65c_add_72be8_18 rfl ?_
    refine g_put (q := 22) C hcl_Jx4a65c 2 (by decide) qw_54 rfl rfl rfl rfl dJx4a65c_add_72be8_19 (by first | exact (hU_n hea).trans a1 | exact (hU_n (Ne.symm hba)).trans (hU_s _ _ _)) (Nat.le_of_ble_eq_true rfl) rfl ?_
    (try rw [hU_2])
    exact g_vret C dJx4a65c_add_72be8_22 (⟨ed, list_put hn a1 a2 a3, Or.inl rfl, (hOff.rf.put (by refine Or.inr (Or.inl ⟨rfl, fun q => hro q _ a2⟩))).put (Or.inl rfl)⟩) (by decide) (by decide)
  · skip
    have hcap : w = false ∧ cap = 0 ∧ n = 0 ∧ ed = Γ.2.2.1 := by
      rcases a5 with q | ⟨q1, q2⟩
      · exact q
      · subst q2; exact absurd ((nI_eq (a := n) (b := 10) (by omega) (by decide)).mp c_3) (by omega)
    obtain ⟨rfl, rfl, rfl, rfl⟩ := hcap
    refine g_aload_n (q := 7) C dJx4a65c_add_72be8_6 rfl (by first | exact hRef_r _ | exact hRef_o _ | exact hRef_n) rfl ?_
    refine g_callV0Qm (q := 10) C hy_Jx4a65c_grow_d5877 (c_Jx4a65c_grow_d5877 Γ l a1 a2 rfl) qw_580 (by exact a1) rfl ⟨Nat.le_of_ble_eq_true rfl, Nat.le_of_ble_eq_true rfl⟩ (Nat.le_of_ble_eq_true rfl) rfl dJx4a65c_add_72be8_7 ⟨(by decide), (by decide)⟩ rfl (fun x_7 M_7 p_7 => ?_)
    obtain ⟨b, rfl, eb, rfl⟩ := p_7
    have hba : b ≠ a := fun q => by rw [q, a1] at eb; cases eb
    have hbv : v ≠ b := fun q => by rw [← q, hv] at eb; cases eb
    have hav : v ≠ a ∨ v = a := by omega
    have hMb : (hU (hU M b (aO Γ 10 (fun _ => none))) a (oList mod (some b) (nI 0))) b = some (true, aO Γ 10 (fun _ => none)) := by rw [hU_n hba, hU_s]
    refine g_astore2 (q := 11) C dJx4a65c_add_72be8_10 (by first | exact hRef_r _ | exact hRef_o _ | exact hRef_n) (by first | rfl | exact hNw_rf _) rfl ?_
    refine g_aload_n (q := 12) C dJx4a65c_add_72be8_11 rfl (by first | exact hRef_r _ | exact hRef_o _ | exact hRef_n) rfl ?_
    refine g_iload_n (q := 13) C dJx4a65c_add_72be8_12 rfl rfl ?_
    refine g_aload_n (q := 14) C dJx4a65c_add_72be8_13 rfl (by first | exact hRef_r _ | exact hRef_o _ | exact hRef_n) rfl ?_
    refine g_aastO (q := 15) (N := 10) C _ rfl (by omega) (by decide) dJx4a65c_add_72be8_14 (by first | exact a2 | exact hMb) (by first | exact hv | exact ((hU_n hva).trans (hU_n hbv)).trans hv) hc hcast rfl ?_
    refine g_aload_n (q := 16) C dJx4a65c_add_72be8_15 rfl (by first | exact hRef_r _ | exact hRef_o _ | exact hRef_n) rfl ?_
    refine g_iload_n (q := 17) C dJx4a65c_add_72be8_16 rfl rfl ?_
    refine g_iconst (q := 18) (1) C dJx4a65c_add_72be8_17 (by decide) rfl ?_
    refine g_iadd (q := 19) C dJx4a65c_add_72be8_18 rfl ?_
    refine g_put (q := 22) C hcl_Jx4a65c 2 (by decide) qw_54 rfl rfl rfl rfl dJx4a65c_add_72be8_19 (by first | exact (hU_n hea).trans a1 | exact (hU_n (Ne.symm hba)).trans (hU_s _ _ _)) (Nat.le_of_ble_eq_true rfl) rfl ?_
    (try rw [hU_2])
    exact g_vret C dJx4a65c_add_72be8_22 (⟨b, list_put (M1 := hU (hU M b (aO Γ 10 (fun _ => none))) a (oList mod (some b) (nI 0))) (by decide) (hU_s _ _ _) hMb (fun i hi => by omega), Or.inr eb, (((hOff.rf.put (Or.inr (Or.inr eb))).put (Or.inl rfl)).put (Or.inr (Or.inr eb))).put (Or.inl rfl)⟩) (by decide) (by decide)
set_option maxRecDepth 100000 in
set_option maxHeartbeats 4000000 in
theorem c_Jx4a65c_add_9ea2d (Γ : hGam) (l : Launch) {M : hM} {a ed n v : Nat} {e : Nat → Nat} {ci : Nat} {wv : Bool} {r : vw_C} {vs : List Value} (hl : lsP Γ M a ed n e) (hn : n < 6) (hv : M v = some (wv, .inr (ci, vs))) (hc : vwCl[ci]? = some r) (hcast : Cond.castable r.1 "java/lang/Object" ∈ hNest) (hvna : v ≠ a) (hro : ed = Γ.2.2.1 → ∀ x, M ed ≠ some (true, x)) : hMet Γ l yJx4a65c_add_9ea2d cJx4a65c_add_9ea2d 2 (some .boolean) rm_Jx4a65c_add_9ea2d [.ref a, .ref v] M (hpI (fun x M1 => x = 1 ∧ ∃ ed2 : Nat, lsP Γ M1 a ed2 (n + 1) (fUp e n v) ∧ (ed2 = ed ∨ M ed2 = none) ∧ hOff M M1 (fun q => q = a ∨ (q = ed ∧ ed ≠ Γ.2.2.1) ∨ M q = none))) := by
  obtain ⟨mod, w, cap, g, a1, a2, a3, a4, a5⟩ := hl
  have hea : a ≠ ed := fun q => by rw [← q, a1] at a2; cases a2
  refine hMet_of (by decide +kernel) (Nat.le_of_ble_eq_true rfl) (hCat_cons rfl (hCat_cons rfl hCat_nil)) (fun k C => ?_)
  show hG _ _ _ _ _ _ _ _ [some (.ref a), some (.ref v)] _
  refine g_aload_n (q := 1) C dJx4a65c_add_9ea2d_0 rfl (by first | exact hRef_r _ | exact hRef_o _ | exact hRef_n) rfl ?_
  refine g_dup (q := 2) C dJx4a65c_add_9ea2d_1 rfl rfl ?_
  refine g_getS (q := 5) C hcl_Jx4a65c 0 (by decide) qw_56 qw_57 dJx4a65c_add_9ea2d_2 (by exact a1) rfl rfl ?_
  refine g_iconst (q := 6) (1) C dJx4a65c_add_9ea2d_5 (by decide) rfl ?_
  refine g_iadd (q := 7) C dJx4a65c_add_9ea2d_6 rfl ?_
  refine g_putS (q := 10) C hcl_Jx4a65c 0 (by decide) qw_56 qw_57 rfl rfl rfl dJx4a65c_add_9ea2d_7 (by exact a1) (Nat.le_of_ble_eq_true rfl) rfl ?_
  have hl2 : lsP Γ (hU M a (oList (mod + 1) (some ed) (nI n))) a ed n e := ⟨mod + 1, w, cap, g, hU_s _ _ _, (hU_n (Ne.symm hea)).trans a2, a3, a4, a5⟩
  have hv2 : hU M a (oList (mod + 1) (some ed) (nI n)) v = some (wv, .inr (ci, vs)) := (hU_n hvna).trans hv
  have hro2 : ed = Γ.2.2.1 → ∀ x, hU M a (oList (mod + 1) (some ed) (nI n)) ed ≠ some (true, x) := fun q x q2 => hro q x ((hU_n (Ne.symm hea)).symm.trans q2)
  refine g_aload_n (q := 11) C dJx4a65c_add_9ea2d_10 rfl (by first | exact hRef_r _ | exact hRef_o _ | exact hRef_n) rfl ?_
  refine g_aload_n (q := 12) C dJx4a65c_add_9ea2d_11 rfl (by first | exact hRef_r _ | exact hRef_o _ | exact hRef_n) rfl ?_
  refine g_aload_n (q := 13) C dJx4a65c_add_9ea2d_12 rfl (by first | exact hRef_r _ | exact hRef_o _ | exact hRef_n) rfl ?_
  refine g_get (q := 16) C hcl_Jx4a65c 1 (by decide) qw_53 rfl dJx4a65c_add_9ea2d_13 (by exact hU_s _ _ _) rfl rfl ?_
  refine g_aload_n (q := 17) C dJx4a65c_add_9ea2d_16 rfl (by first | exact hRef_r _ | exact hRef_o _ | exact hRef_n) rfl ?_
  refine g_get (q := 20) C hcl_Jx4a65c 2 (by decide) qw_54 rfl dJx4a65c_add_9ea2d_17 (by exact hU_s _ _ _) rfl rfl ?_
  refine g_callV3Vm (q := 23) C hy_Jx4a65c_add_72be8 (c_Jx4a65c_add_72be8 Γ l hl2 hn hv2 hc hcast hvna hro2) qw_576 (by exact hU_s _ _ _) rfl ⟨Nat.le_of_ble_eq_true rfl, Nat.le_of_ble_eq_true rfl⟩ (Nat.le_of_ble_eq_true rfl) rfl dJx4a65c_add_9ea2d_20 ⟨(by decide), (by decide)⟩ rfl (fun M_20 p_20 => ?_)
  obtain ⟨ed2, p1, p2, p3⟩ := p_20
  refine g_iconst (q := 24) (1) C dJx4a65c_add_9ea2d_23 (by decide) rfl ?_
  exact g_zret C dJx4a65c_add_9ea2d_24 (by first | rfl | exact hNarB _) (⟨rfl, ed2, p1, p2.imp id (fun q => by by_cases h9 : ed2 = a; exact absurd q (by rw [h9, hU_s]; exact fun q => by cases q); exact (hU_n h9).symm.trans q), fun b hb => (p3 b (fun q => hb (q.imp id (fun q => q.imp id (fun q => by by_cases h9 : b = a; exact absurd q (by rw [h9, hU_s]; exact fun q => by cases q); exact (hU_n h9).symm.trans q))))).trans (hU_n (fun q => hb (Or.inl q)))⟩) (by decide) (by decide)
