/-! ===== loops, and a rack's picture ===== -/
theorem h_loopU {P : Nat → Prop} {N : Nat} (hs : ∀ j, j ≤ N → (j < N → P (j + 1)) → P j) : ∀ j, j ≤ N → P j := by
  have key : ∀ d j, j + d = N → P j := by
    intro d
    induction d with
    | zero => intro j hj; exact hs j (by omega) (fun h => by omega)
    | succ d ih => intro j hj; exact hs j (by omega) (fun h => ih (j + 1) (by omega))
  intro j hj
  exact key (N - j) j (by omega)
def hIt {α : Type} (f : Nat → α → α) (a : α) : Nat → α
  | 0 => a
  | n + 1 => f n (hIt f a n)
theorem hIt_s {α : Type} (f : Nat → α → α) (a : α) (n : Nat) : hIt f a (n + 1) = f n (hIt f a n) := rfl
theorem hIt_congr {α : Type} {f g : Nat → α → α} {a : α} : ∀ {n : Nat}, (∀ i x, i < n → f i x = g i x) → hIt f a n = hIt g a n
  | 0, _ => rfl
  | n + 1, h => by rw [hIt_s, hIt_s, hIt_congr (fun i x hi => h i x (by omega)), h n _ (by omega)]
theorem nI_ge_eq {j N : Nat} (hj : j ≤ N) (hN : N < 2 ^ 31) (h : nI N ≤ nI j) : j = N := by
  have := (nI_leI hN (by omega)).mp h
  omega
theorem nI_nge_lt {j N : Nat} (hj : j ≤ N) (hN : N < 2 ^ 31) (h : ¬ nI N ≤ nI j) : j < N := by
  rcases Nat.lt_or_ge j N with q | q
  · exact q
  · exact absurd (nI_le q (by omega)) h
def bef (hk : Nat → Nat) (i : Nat) : Option Nat := if i % 8 = 0 then none else some (hk (i - 1))
def aft (hk : Nat → Nat) (i : Nat) : Option Nat := if i % 8 = 7 then none else some (hk (i + 1))
theorem bef_some {hk : Nat → Nat} {i y : Nat} (h : bef hk i = some y) : i % 8 ≠ 0 ∧ y = hk (i - 1) := by
  unfold bef at h
  split at h
  · cases h
  · exact ⟨by assumption, (Option.some.inj h).symm⟩
theorem aft_some {hk : Nat → Nat} {i y : Nat} (h : aft hk i = some y) : i % 8 ≠ 7 ∧ y = hk (i + 1) := by
  unfold aft at h
  split at h
  · cases h
  · exact ⟨by assumption, (Option.some.inj h).symm⟩
/-- the cell of the hook i: its bundle v, what the day's first round left there -/
abbrev hkC (hk : Nat → Nat) (i : Nat) (v : hB) (fs : Int32 × Bool) : va_E := oHook (nI (i / 8)) (bef hk i) (aft hk i) v.1 v.2.1 v.2.2.1 v.2.2.2.1 v.2.2.2.2 fs.1 (bI fs.2)
def hkI (hk : Nat → Nat) : Prop := ∀ i j, i < 40 → j < 40 → hk i = hk j → i = j
def hkF (M : hM) (hk : Nat → Nat) (V : Nat → hB) (FS : Nat → Int32 × Bool) : Prop := ∀ i, i < 40 → M (hk i) = some (true, hkC hk i (V i) (FS i))
def rkS (Γ : hGam) (M : hM) (r : Nat) (hk : Nat → Nat) : Prop := hkI hk ∧ ∃ (arr : Nat) (f : Nat → Option Nat), M r = some (true, oRack (some arr)) ∧ M arr = some (true, aH Γ 40 f) ∧ ∀ i, i < 40 → f i = some (hk i)
def onHk (hk : Nat → Nat) (a : Nat) : Prop := ∃ i, i < 40 ∧ a = hk i
/-- elsewhere nothing has changed -/
def hOff (M M1 : hM) (S : Nat → Prop) : Prop := ∀ a, ¬ S a → M1 a = M a
theorem hOff.rf {M : hM} {S : Nat → Prop} : hOff M M S := fun _ _ => rfl
theorem hOff.put {M M1 : hM} {S : Nat → Prop} (h : hOff M M1 S) {a : Nat} {e : va_E} (ha : S a) : hOff M (hU M1 a e) S := fun b hb => by
  rw [hU_n (fun q => hb (by rw [q]; exact ha))]
  exact h b hb
theorem hOff.tr {M M1 M2 : hM} {S : Nat → Prop} (h : hOff M M1 S) (h2 : hOff M1 M2 S) : hOff M M2 S := fun b hb => (h2 b hb).trans (h b hb)
theorem hOff.wk {M M1 : hM} {S T : Nat → Prop} (h : hOff M M1 S) (hs : ∀ a, S a → T a) : hOff M M1 T := fun b hb => h b (fun q => hb (hs b q))
def fUp {α : Type} (f : Nat → α) (k : Nat) (v : α) : Nat → α := fun j => if j = k then v else f j
theorem fUp_s {α : Type} (f : Nat → α) (k : Nat) (v : α) : fUp f k v k = v := by simp [fUp]
theorem fUp_n {α : Type} {f : Nat → α} {k j : Nat} {v : α} (h : j ≠ k) : fUp f k v j = f j := by simp [fUp, h]
theorem hkF.put {M : hM} {hk : Nat → Nat} {V : Nat → hB} {FS : Nat → Int32 × Bool} (h : hkF M hk V FS) (hi : hkI hk) {j : Nat} (hj : j < 40) (v : hB) (fs : Int32 × Bool) : hkF (hU M (hk j) (hkC hk j v fs)) hk (fUp V j v) (fUp FS j fs) := by
  intro i hi40
  by_cases hij : i = j
  · subst hij
    rw [hU_s, fUp_s, fUp_s]
  · rw [hU_n (fun q => hij (hi i j hi40 hj q)), fUp_n hij, fUp_n hij]
    exact h i hi40
theorem hkF.congr {M : hM} {hk : Nat → Nat} {V V' : Nat → hB} {FS FS' : Nat → Int32 × Bool} (h : hkF M hk V FS) (hv : ∀ i, i < 40 → V i = V' i) (hs : ∀ i, i < 40 → FS i = FS' i) : hkF M hk V' FS' := fun i hi => by
  rw [← hv i hi, ← hs i hi]
  exact h i hi
theorem hkF.off {M M1 : hM} {hk : Nat → Nat} {V : Nat → hB} {FS : Nat → Int32 × Bool} (h : hkF M hk V FS) {S : Nat → Prop} (ho : hOff M M1 S) (hs : ∀ i, i < 40 → ¬ S (hk i)) : hkF M1 hk V FS := fun i hi => (ho _ (hs i hi)).trans (h i hi)
theorem rkS.off {Γ : hGam} {M M1 : hM} {r : Nat} {hk : Nat → Nat} (h : rkS Γ M r hk) {S : Nat → Prop} (ho : hOff M M1 S) (hr : ∀ e, M r = some (true, e) → ¬ S r) (hs : ∀ a f, M a = some (true, aH Γ 40 f) → ¬ S a) : rkS Γ M1 r hk := by
  obtain ⟨hi, arr, f, h1, h2, h3⟩ := h
  exact ⟨hi, arr, f, (ho _ (hr _ h1)).trans h1, (ho _ (hs _ _ h2)).trans h2, h3⟩
/-- a cell that is no hook's isn't on the hooks -/
theorem hkF.notOn {M : hM} {hk : Nat → Nat} {V : Nat → hB} {FS : Nat → Int32 × Bool} (h : hkF M hk V FS) {a : Nat} {w : Bool} {e : va_E} (ha : M a = some (w, e)) (he : ∀ fs, e ≠ .inr (2, fs)) : ¬ onHk hk a := by
  rintro ⟨i, hi, rfl⟩
  rw [h i hi] at ha
  have e1 := (Prod.mk.inj (Option.some.inj ha)).2
  exact he _ e1.symm
theorem rkS.offHk {Γ : hGam} {M M1 : hM} {r : Nat} {hk hk' : Nat → Nat} {V : Nat → hB} {FS : Nat → Int32 × Bool} (h : rkS Γ M r hk) (hF : hkF M hk' V FS) (ho : hOff M M1 (onHk hk')) : rkS Γ M1 r hk := by
  obtain ⟨hi, arr, f, h1, h2, h3⟩ := h
  refine ⟨hi, arr, f, (ho _ (hF.notOn h1 (fun fs q => ?_))).trans h1, (ho _ (hF.notOn h2 (fun fs q => ?_))).trans h2, h3⟩
  · cases q
  · cases q
theorem hkF.at {M : hM} {hk : Nat → Nat} {V : Nat → hB} {FS : Nat → Int32 × Bool} (h : hkF M hk V FS) {i : Nat} (hi : i < 40) : hAt M (hk i) (V i) := ⟨_, _, _, _, _, _, h i hi⟩
theorem hkF.bef {M : hM} {hk : Nat → Nat} {V : Nat → hB} {FS : Nat → Int32 × Bool} (h : hkF M hk V FS) {i : Nat} (hi : i < 40) : ∀ y, bef hk i = some y → hAt M y (V (i - 1)) := fun y hy => by
  obtain ⟨h8, rfl⟩ := bef_some hy
  exact h.at (by omega)
theorem hkF.aft {M : hM} {hk : Nat → Nat} {V : Nat → hB} {FS : Nat → Int32 × Bool} (h : hkF M hk V FS) {i : Nat} (hi : i < 40) : ∀ y, aft hk i = some y → hAt M y (V (i + 1)) := fun y hy => by
  obtain ⟨h8, rfl⟩ := aft_some hy
  exact h.at (by omega)
theorem hkI.befN {hk : Nat → Nat} (h : hkI hk) {i : Nat} (hi : i < 40) : ∀ y, bef hk i = some y → y ≠ hk i := fun y hy q => by
  obtain ⟨h8, rfl⟩ := bef_some hy
  have := h _ _ (by omega) hi q
  omega
theorem hkI.aftN {hk : Nat → Nat} (h : hkI hk) {i : Nat} (hi : i < 40) : ∀ y, aft hk i = some y → y ≠ hk i := fun y hy q => by
  obtain ⟨h8, rfl⟩ := aft_some hy
  have := h _ _ (by omega) hi q
  omega
section hRows5
variable {Γ : hGam} {l : Launch} {k : hCtx} {own nm : String} {cc : ByteArray} {nL : Nat} {ret : Option FieldType} {rm : Room} {A : Nat → Prop} {Q : State → Prop} {M : hM} {n z pc : Nat} {L : List (Option Value)} {st : List Value}
theorem g_aaldHr {q a N y : Nat} {w : Bool} {f : Nat → Option Nat} {i : Int32} (C : hC Γ l k own nm cc nL ret rm A) (j : Nat) (hi : i = nI j) (hj : j < N) (hN : N < 2 ^ 31) (d : decode cc pc = .ok (.aaload, 1)) (hM : M a = some (w, aH Γ N f)) (hf : f j = some y) (hq : pc + 1 = q) (kk : hG Γ k A Q M n z q L (.ref y :: st)) : hG Γ k A Q M n z pc L (.int i :: .ref a :: st) := by
  refine g_aaldH C j hi hj hN d hM hq ?_
  rw [hf]
  exact kk
end hRows5
set_option maxRecDepth 100000 in
set_option maxHeartbeats 4000000 in
theorem c_X4_isWithin (Γ : hGam) (l : Launch) {M : hM} (p lo hi : Int32) : hMet Γ l yX4_isWithin cX4_isWithin 3 (some .boolean) rm_X4_isWithin [.int p, .int lo, .int hi] M (hpP M (bI (decide (lo ≤ p) && decide (p ≤ hi)))) := by
  refine hMet_of (by decide +kernel) (Nat.le_of_ble_eq_true rfl) (hCat_cons rfl (hCat_cons rfl (hCat_cons rfl hCat_nil))) (fun k C => ?_)
  show hG _ _ _ _ _ _ _ _ [some (.int p), some (.int lo), some (.int hi)] _
  refine g_iload_n (q := 1) C dX4_isWithin_0 rfl rfl ?_
  refine g_iload_n (q := 2) C dX4_isWithin_1 rfl rfl ?_
  refine g_icmp_lt (t := 14) (q := 5) C dX4_isWithin_2 (by decide) rfl (fun c_2 => ?_) (fun c_2 => ?_)
  · skip
    refine g_iconst (q := 15) (0) C dX4_isWithin_14 (by decide) rfl ?_
    exact g_zret C dX4_isWithin_15 (by first | rfl | exact hNarB _) (⟨by first | rfl | (simp [bI, *]; done) | (simp [bI, ← Int32.not_lt, *]; done) | (simp_all [bI]; done) | (simp_all [bI, ← Int32.not_lt]; done), rfl⟩) (Nat.zero_le _) (Nat.zero_le _)
  · skip
    refine g_iload_n (q := 6) C dX4_isWithin_5 rfl rfl ?_
    refine g_iload_n (q := 7) C dX4_isWithin_6 rfl rfl ?_
    refine g_icmp_gt (t := 14) (q := 10) C dX4_isWithin_7 (by decide) rfl (fun c_7 => ?_) (fun c_7 => ?_)
    · skip
      refine g_iconst (q := 15) (0) C dX4_isWithin_14 (by decide) rfl ?_
      exact g_zret C dX4_isWithin_15 (by first | rfl | exact hNarB _) (⟨by first | rfl | (simp [bI, *]; done) | (simp [bI, ← Int32.not_lt, *]; done) | (simp_all [bI]; done) | (simp_all [bI, ← Int32.not_lt]; done), rfl⟩) (Nat.zero_le _) (Nat.zero_le _)
    · skip
      refine g_iconst (q := 11) (1) C dX4_isWithin_10 (by decide) rfl ?_
      refine g_goto (t := 15) C dX4_isWithin_11 (by decide) ?_
      exact g_zret C dX4_isWithin_15 (by first | rfl | exact hNarB _) (⟨by first | rfl | (simp [bI, *]; done) | (simp [bI, ← Int32.not_lt, *]; done) | (simp_all [bI]; done) | (simp_all [bI, ← Int32.not_lt]; done), rfl⟩) (Nat.zero_le _) (Nat.zero_le _)
set_option maxRecDepth 100000 in
set_option maxHeartbeats 4000000 in
theorem c_X2_needsSome (Γ : hGam) (l : Launch) {M : hM} {x : Nat} {w : Bool} {h : Option Nat} {many wet got : Int32} (h0 : M x = some (w, oOrder h many wet got)) : hMet Γ l yX2_needsSome cX2_needsSome 1 (some .boolean) rm_X2_needsSome [.ref x] M (hpP M (bI (decide (got < many)))) := by
  refine hMet_of (by decide +kernel) (Nat.le_of_ble_eq_true rfl) (hCat_cons rfl hCat_nil) (fun k C => ?_)
  show hG _ _ _ _ _ _ _ _ [some (.ref x)] _
  refine g_aload_n (q := 1) C dX2_needsSome_0 rfl (by first | exact hRef_r _ | exact hRef_o _ | exact hRef_n) rfl ?_
  refine g_get (q := 4) C hcl_X2 3 (by decide) qw_560 rfl dX2_needsSome_1 (by exact h0) rfl rfl ?_
  refine g_aload_n (q := 5) C dX2_needsSome_4 rfl (by first | exact hRef_r _ | exact hRef_o _ | exact hRef_n) rfl ?_
  refine g_get (q := 8) C hcl_X2 1 (by decide) qw_555 rfl dX2_needsSome_5 (by exact h0) rfl rfl ?_
  refine g_icmp_ge (t := 15) (q := 11) C dX2_needsSome_8 (by decide) rfl (fun c_8 => ?_) (fun c_8 => ?_)
  · skip
    refine g_iconst (q := 16) (0) C dX2_needsSome_15 (by decide) rfl ?_
    exact g_zret C dX2_needsSome_16 (by first | rfl | exact hNarB _) (⟨by first | rfl | (simp [bI, *]; done) | (simp [bI, ← Int32.not_lt, *]; done) | (simp_all [bI]; done) | (simp_all [bI, ← Int32.not_lt]; done), rfl⟩) (Nat.zero_le _) (Nat.zero_le _)
  · skip
    refine g_iconst (q := 12) (1) C dX2_needsSome_11 (by decide) rfl ?_
    refine g_goto (t := 16) C dX2_needsSome_12 (by decide) ?_
    exact g_zret C dX2_needsSome_16 (by first | rfl | exact hNarB _) (⟨by first | rfl | (simp [bI, *]; done) | (simp [bI, ← Int32.not_lt, *]; done) | (simp_all [bI]; done) | (simp_all [bI, ← Int32.not_lt]; done), rfl⟩) (Nat.zero_le _) (Nat.zero_le _)
set_option maxRecDepth 100000 in
set_option maxHeartbeats 4000000 in
theorem c_X2_init (Γ : hGam) (l : Launch) {M : hM} {x : Nat} (o : Option Nat) (p q : Int32) (h0 : M x = some (true, oOrder none 0 0 0)) : hMet Γ l yX2_init cX2_init 4 none rm_X2_init [.ref x, va_rf o, .int p, .int q] M (hpV (fun M1 => M1 = hU M x (oOrder o p q 0))) := by
  refine hMet_of (by decide +kernel) (Nat.le_of_ble_eq_true rfl) (hCat_cons rfl (hCat_cons (hRef_o _).cat (hCat_cons rfl (hCat_cons rfl hCat_nil)))) (fun k C => ?_)
  show hG _ _ _ _ _ _ _ _ [some (.ref x), some (va_rf o), some (.int p), some (.int q)] _
  refine g_aload_n (q := 1) C dX2_init_0 rfl (by first | exact hRef_r _ | exact hRef_o _ | exact hRef_n) rfl ?_
  refine g_objInit (q := 4) C qw_551 qw_37 qw_38 rfl dX2_init_1 (by decide) (by decide) rfl ?_
  refine g_aload_n (q := 5) C dX2_init_4 rfl (by first | exact hRef_r _ | exact hRef_o _ | exact hRef_n) rfl ?_
  refine g_aload_n (q := 6) C dX2_init_5 rfl (by first | exact hRef_r _ | exact hRef_o _ | exact hRef_n) rfl ?_
  refine g_putF (q := 9) C hcl_X2 0 (by decide) qw_552 rfl rfl rfl rfl (by first | rfl | exact narO _) (by first | rfl | exact fitsB _ | exact fitsO _) dX2_init_6 (by first | exact h0 | exact hU_s _ _ _) (Nat.le_of_ble_eq_true rfl) rfl ?_
  (try rw [hU_2])
  refine g_aload_n (q := 10) C dX2_init_9 rfl (by first | exact hRef_r _ | exact hRef_o _ | exact hRef_n) rfl ?_
  refine g_iload_n (q := 11) C dX2_init_10 rfl rfl ?_
  refine g_putF (q := 14) C hcl_X2 1 (by decide) qw_555 rfl rfl rfl rfl rfl rfl dX2_init_11 (by first | exact h0 | exact hU_s _ _ _) (Nat.le_of_ble_eq_true rfl) rfl ?_
  (try rw [hU_2])
  refine g_aload_n (q := 15) C dX2_init_14 rfl (by first | exact hRef_r _ | exact hRef_o _ | exact hRef_n) rfl ?_
  refine g_iload_n (q := 16) C dX2_init_15 rfl rfl ?_
  refine g_putF (q := 19) C hcl_X2 2 (by decide) qw_557 rfl rfl rfl rfl rfl rfl dX2_init_16 (by first | exact h0 | exact hU_s _ _ _) (Nat.le_of_ble_eq_true rfl) rfl ?_
  (try rw [hU_2])
  refine g_aload_n (q := 20) C dX2_init_19 rfl (by first | exact hRef_r _ | exact hRef_o _ | exact hRef_n) rfl ?_
  refine g_iconst (q := 21) (0) C dX2_init_20 (by decide) rfl ?_
  refine g_put (q := 24) C hcl_X2 3 (by decide) qw_560 rfl rfl rfl rfl dX2_init_21 (by first | exact h0 | exact hU_s _ _ _) (Nat.le_of_ble_eq_true rfl) rfl ?_
  (try rw [hU_2])
  exact g_vret C dX2_init_24 (rfl) (Nat.zero_le _) (Nat.zero_le _)
set_option maxRecDepth 100000 in
set_option maxHeartbeats 4000000 in
theorem c_X0_init (Γ : hGam) (l : Launch) {M : hM} {x : Nat} (p q r : Int32) (h0 : M x = some (true, oHerb 0 0 0)) : hMet Γ l yX0_init cX0_init 4 none rm_X0_init [.ref x, .int p, .int q, .int r] M (hpV (fun M1 => M1 = hU M x (oHerb p q r))) := by
  refine hMet_of (by decide +kernel) (Nat.le_of_ble_eq_true rfl) (hCat_cons rfl (hCat_cons rfl (hCat_cons rfl (hCat_cons rfl hCat_nil)))) (fun k C => ?_)
  show hG _ _ _ _ _ _ _ _ [some (.ref x), some (.int p), some (.int q), some (.int r)] _
  refine g_aload_n (q := 1) C dX0_init_0 rfl (by first | exact hRef_r _ | exact hRef_o _ | exact hRef_n) rfl ?_
  refine g_objInit (q := 4) C qw_670 qw_37 qw_38 rfl dX0_init_1 (by decide) (by decide) rfl ?_
  refine g_aload_n (q := 5) C dX0_init_4 rfl (by first | exact hRef_r _ | exact hRef_o _ | exact hRef_n) rfl ?_
  refine g_iload_n (q := 6) C dX0_init_5 rfl rfl ?_
  refine g_putF (q := 9) C hcl_X0 0 (by decide) qw_671 rfl rfl rfl rfl rfl rfl dX0_init_6 (by first | exact h0 | exact hU_s _ _ _) (Nat.le_of_ble_eq_true rfl) rfl ?_
  (try rw [hU_2])
  refine g_aload_n (q := 10) C dX0_init_9 rfl (by first | exact hRef_r _ | exact hRef_o _ | exact hRef_n) rfl ?_
  refine g_iload_n (q := 11) C dX0_init_10 rfl rfl ?_
  refine g_putF (q := 14) C hcl_X0 1 (by decide) qw_674 rfl rfl rfl rfl rfl rfl dX0_init_11 (by first | exact h0 | exact hU_s _ _ _) (Nat.le_of_ble_eq_true rfl) rfl ?_
  (try rw [hU_2])
  refine g_aload_n (q := 15) C dX0_init_14 rfl (by first | exact hRef_r _ | exact hRef_o _ | exact hRef_n) rfl ?_
  refine g_iload_n (q := 16) C dX0_init_15 rfl rfl ?_
  refine g_putF (q := 19) C hcl_X0 2 (by decide) qw_677 rfl rfl rfl rfl rfl rfl dX0_init_16 (by first | exact h0 | exact hU_s _ _ _) (Nat.le_of_ble_eq_true rfl) rfl ?_
  (try rw [hU_2])
  exact g_vret C dX0_init_19 (rfl) (Nat.zero_le _) (Nat.zero_le _)
def fCnt (V : Nat → hB) : Nat → Int32 → Int32 := fun i s => if (V i).1.isSome = true then s + 1 else s
def fBad (V : Nat → hB) : Nat → Int32 → Int32 := fun i s => if ((V i).1.isSome && decide (0 < (V i).2.2.2.2)) = true then s + 1 else s
def fSum (V : Nat → hB) : Nat → Int32 → Int32 := fun i s => if (V i).1.isSome = true then s + ((V i).2.1 + (V i).2.2.1) / 2 else s
def fCntO (V : Nat → hB) (o : Option Nat) : Nat → Int32 → Int32 := fun i s => if ((V i).1.isSome && decide ((V i).1 = o)) = true then s + 1 else s
def fBadO (V : Nat → hB) (o : Option Nat) : Nat → Int32 → Int32 := fun i s => if ((V i).1.isSome && decide ((V i).1 = o)) = true then (if ((V i).1.isSome && decide (0 < (V i).2.2.2.2)) = true then s + 1 else s) else s
def fLst (V : Nat → hB) (o : Option Nat) : Nat → Int32 → Int32 := fun i s => if ((V i).1.isSome && decide ((V i).1 = o)) = true then (if ((V i).1.isSome && decide (0 < (V i).2.2.2.2)) = true then s else (if s < 0 then ((V i).2.1 + (V i).2.2.1) / 2 else if s ≤ ((V i).2.1 + (V i).2.2.1) / 2 then s else ((V i).2.1 + (V i).2.2.1) / 2)) else s
def bFit (v : hB) (oh : Option Nat) (wet : Int32) : Bool := (v.1.isSome && decide (v.1 = oh)) && (decide ((v.2.1 + v.2.2.1) / 2 ≤ wet) && decide (v.2.2.2.2 = 0))
def fFit (V : Nat → hB) (oh : Option Nat) (wet : Int32) : Nat → Int32 → Int32 := fun i s => if bFit (V i) oh wet = true then s + 1 else s
set_option maxRecDepth 100000 in
set_option maxHeartbeats 4000000 in
theorem c_X3_bundles (Γ : hGam) (l : Launch) {M : hM} {r : Nat} {hk : Nat → Nat} {V : Nat → hB} {FS : Nat → Int32 × Bool}  (hr : rkS Γ M r hk) (hF : hkF M hk V FS)  : hMet Γ l yX3_bundles cX3_bundles 6 (some .int) rm_X3_bundles [.ref r] M (hpP M (hIt (fCnt V) 0 40)) := by
  obtain ⟨hI, arr, hf, h1, h2, h3⟩ := hr
  refine hMet_of (by decide +kernel) (Nat.le_of_ble_eq_true rfl) (hCat_cons rfl hCat_nil) (fun k C => ?_)
  show hG _ _ _ _ _ _ _ _ [some (.ref r), none, none, none, none, none] _
  refine g_iconst (q := 1) (0) C dX3_bundles_0 (by decide) rfl ?_
  refine g_istore1 (q := 2) C dX3_bundles_1 (by first | rfl | exact hNw_rf _) rfl ?_
  refine g_aload_n (q := 3) C dX3_bundles_2 rfl (by first | exact hRef_r _ | exact hRef_o _ | exact hRef_n) rfl ?_
  refine g_get (q := 6) C hcl_X3 0 (by decide) qw_112 rfl dX3_bundles_3 (by first | exact h1 | exact hF j hlt) rfl rfl ?_
  refine g_astore2 (q := 7) C dX3_bundles_6 (by first | exact hRef_r _ | exact hRef_o _ | exact hRef_n) (by first | rfl | exact hNw_rf _) rfl ?_
  refine g_aload_n (q := 8) C dX3_bundles_7 rfl (by first | exact hRef_r _ | exact hRef_o _ | exact hRef_n) rfl ?_
  refine g_alenH (q := 9) C dX3_bundles_8 (by exact h2) rfl ?_
  refine g_istore3 (q := 10) C dX3_bundles_9 (by first | rfl | exact hNw_rf _) rfl ?_
  refine g_iconst (q := 11) (0) C dX3_bundles_10 (by decide) rfl ?_
  refine g_istore4 (q := 13) C dX3_bundles_11 (by first | rfl | exact hNw_rf _) rfl ?_
  refine h_loopU (P := fun j => ∀ (acc : Int32) (o : Option Value), acc = hIt (fCnt V) 0 j → hG Γ k _ _ M 0 0 13 [some (.ref r), some (.int acc), some (.ref arr), some (.int (nI 40)), some (.int (nI j)), o] []) (N := 40) (fun j hj ih => ?_) 0 (Nat.zero_le _) _ _ rfl
  intro acc o hacc
  refine g_iload (q := 15) C dX3_bundles_13 rfl rfl ?_
  refine g_iload_n (q := 16) C dX3_bundles_15 rfl rfl ?_
  refine g_icmp_ge (t := 42) (q := 19) C dX3_bundles_16 (by decide) rfl (fun c_16 => ?_) (fun c_16 => ?_)
  · skip
    have hj40 := nI_ge_eq hj (by decide) c_16
    subst hj40
    refine g_iload_n (q := 43) C dX3_bundles_42 rfl rfl ?_
    exact g_iret C dX3_bundles_43 (⟨hacc, rfl⟩) (Nat.zero_le _) (Nat.zero_le _)
  · skip
    have hlt := nI_nge_lt hj (by decide) c_16
    refine g_aload_n (q := 20) C dX3_bundles_19 rfl (by first | exact hRef_r _ | exact hRef_o _ | exact hRef_n) rfl ?_
    refine g_iload (q := 22) C dX3_bundles_20 rfl rfl ?_
    refine g_aaldHr (q := 23) C j rfl hlt (by decide) dX3_bundles_22 (by exact h2) (h3 j hlt) rfl ?_
    refine g_astore5 (q := 25) C dX3_bundles_23 (by first | exact hRef_r _ | exact hRef_o _ | exact hRef_n) (by first | rfl | exact hNw_rf _) rfl ?_
    refine g_aload (q := 27) C dX3_bundles_25 rfl (by first | exact hRef_r _ | exact hRef_o _ | exact hRef_n) rfl ?_
    refine g_callV0P (q := 30) C hy_X1_isTaken (c_X1_isTaken Γ l (hF j hlt)) qw_262 (by exact hF j hlt) rfl ⟨Nat.le_of_ble_eq_true rfl, Nat.le_of_ble_eq_true rfl⟩ (Nat.le_of_ble_eq_true rfl) rfl dX3_bundles_27 ⟨rfl, rfl⟩ ⟨Nat.zero_le _, Nat.zero_le _⟩ rfl ?_
    refine g_ifB_eq (t := 36) (q := 33) C dX3_bundles_30 (by decide) rfl (fun c_30 => ?_) (fun c_30 => ?_)
    · skip
      refine g_iinc4 (q := 39) (1) C dX3_bundles_36 (by decide) (by first | rfl | exact hNw_rf _) rfl ?_
      refine g_goto (t := 13) C dX3_bundles_39 (by decide) ?_
      rw [nI_1]
      refine ih hlt _ _ ?_
      subst hacc; simp [hIt_s, fCnt, c_30]
    · skip
      refine g_iinc1 (q := 36) (1) C dX3_bundles_33 (by decide) (by first | rfl | exact hNw_rf _) rfl ?_
      refine g_iinc4 (q := 39) (1) C dX3_bundles_36 (by decide) (by first | rfl | exact hNw_rf _) rfl ?_
      refine g_goto (t := 13) C dX3_bundles_39 (by decide) ?_
      rw [nI_1]
      refine ih hlt _ _ ?_
      subst hacc; simp [hIt_s, fCnt, c_30]
set_option maxRecDepth 100000 in
set_option maxHeartbeats 4000000 in
theorem c_X3_mouldyBundles (Γ : hGam) (l : Launch) {M : hM} {r : Nat} {hk : Nat → Nat} {V : Nat → hB} {FS : Nat → Int32 × Bool}  (hr : rkS Γ M r hk) (hF : hkF M hk V FS)  : hMet Γ l yX3_mouldyBundles cX3_mouldyBundles 6 (some .int) rm_X3_mouldyBundles [.ref r] M (hpP M (hIt (fBad V) 0 40)) := by
  obtain ⟨hI, arr, hf, h1, h2, h3⟩ := hr
  refine hMet_of (by decide +kernel) (Nat.le_of_ble_eq_true rfl) (hCat_cons rfl hCat_nil) (fun k C => ?_)
  show hG _ _ _ _ _ _ _ _ [some (.ref r), none, none, none, none, none] _
  refine g_iconst (q := 1) (0) C dX3_mouldyBundles_0 (by decide) rfl ?_
  refine g_istore1 (q := 2) C dX3_mouldyBundles_1 (by first | rfl | exact hNw_rf _) rfl ?_
  refine g_aload_n (q := 3) C dX3_mouldyBundles_2 rfl (by first | exact hRef_r _ | exact hRef_o _ | exact hRef_n) rfl ?_
  refine g_get (q := 6) C hcl_X3 0 (by decide) qw_112 rfl dX3_mouldyBundles_3 (by first | exact h1 | exact hF j hlt) rfl rfl ?_
  refine g_astore2 (q := 7) C dX3_mouldyBundles_6 (by first | exact hRef_r _ | exact hRef_o _ | exact hRef_n) (by first | rfl | exact hNw_rf _) rfl ?_
  refine g_aload_n (q := 8) C dX3_mouldyBundles_7 rfl (by first | exact hRef_r _ | exact hRef_o _ | exact hRef_n) rfl ?_
  refine g_alenH (q := 9) C dX3_mouldyBundles_8 (by exact h2) rfl ?_
  refine g_istore3 (q := 10) C dX3_mouldyBundles_9 (by first | rfl | exact hNw_rf _) rfl ?_
  refine g_iconst (q := 11) (0) C dX3_mouldyBundles_10 (by decide) rfl ?_
  refine g_istore4 (q := 13) C dX3_mouldyBundles_11 (by first | rfl | exact hNw_rf _) rfl ?_
  refine h_loopU (P := fun j => ∀ (acc : Int32) (o : Option Value), acc = hIt (fBad V) 0 j → hG Γ k _ _ M 0 0 13 [some (.ref r), some (.int acc), some (.ref arr), some (.int (nI 40)), some (.int (nI j)), o] []) (N := 40) (fun j hj ih => ?_) 0 (Nat.zero_le _) _ _ rfl
  intro acc o hacc
  refine g_iload (q := 15) C dX3_mouldyBundles_13 rfl rfl ?_
  refine g_iload_n (q := 16) C dX3_mouldyBundles_15 rfl rfl ?_
  refine g_icmp_ge (t := 42) (q := 19) C dX3_mouldyBundles_16 (by decide) rfl (fun c_16 => ?_) (fun c_16 => ?_)
  · skip
    have hj40 := nI_ge_eq hj (by decide) c_16
    subst hj40
    refine g_iload_n (q := 43) C dX3_mouldyBundles_42 rfl rfl ?_
    exact g_iret C dX3_mouldyBundles_43 (⟨hacc, rfl⟩) (Nat.zero_le _) (Nat.zero_le _)
  · skip
    have hlt := nI_nge_lt hj (by decide) c_16
    refine g_aload_n (q := 20) C dX3_mouldyBundles_19 rfl (by first | exact hRef_r _ | exact hRef_o _ | exact hRef_n) rfl ?_
    refine g_iload (q := 22) C dX3_mouldyBundles_20 rfl rfl ?_
    refine g_aaldHr (q := 23) C j rfl hlt (by decide) dX3_mouldyBundles_22 (by exact h2) (h3 j hlt) rfl ?_
    refine g_astore5 (q := 25) C dX3_mouldyBundles_23 (by first | exact hRef_r _ | exact hRef_o _ | exact hRef_n) (by first | rfl | exact hNw_rf _) rfl ?_
    refine g_aload (q := 27) C dX3_mouldyBundles_25 rfl (by first | exact hRef_r _ | exact hRef_o _ | exact hRef_n) rfl ?_
    refine g_callV0P (q := 30) C hy_X1_isMouldy (c_X1_isMouldy Γ l (hF j hlt)) qw_367 (by exact hF j hlt) rfl ⟨Nat.le_of_ble_eq_true rfl, Nat.le_of_ble_eq_true rfl⟩ (Nat.le_of_ble_eq_true rfl) rfl dX3_mouldyBundles_27 ⟨rfl, rfl⟩ ⟨Nat.zero_le _, Nat.zero_le _⟩ rfl ?_
    refine g_ifB_eq (t := 36) (q := 33) C dX3_mouldyBundles_30 (by decide) rfl (fun c_30 => ?_) (fun c_30 => ?_)
    · skip
      refine g_iinc4 (q := 39) (1) C dX3_mouldyBundles_36 (by decide) (by first | rfl | exact hNw_rf _) rfl ?_
      refine g_goto (t := 13) C dX3_mouldyBundles_39 (by decide) ?_
      rw [nI_1]
      refine ih hlt _ _ ?_
      subst hacc; simp [hIt_s, fBad, c_30]
    · skip
      refine g_iinc1 (q := 36) (1) C dX3_mouldyBundles_33 (by decide) (by first | rfl | exact hNw_rf _) rfl ?_
      refine g_iinc4 (q := 39) (1) C dX3_mouldyBundles_36 (by decide) (by first | rfl | exact hNw_rf _) rfl ?_
      refine g_goto (t := 13) C dX3_mouldyBundles_39 (by decide) ?_
      rw [nI_1]
      refine ih hlt _ _ ?_
      subst hacc; simp [hIt_s, fBad, c_30]
set_option maxRecDepth 100000 in
set_option maxHeartbeats 4000000 in
theorem c_X3_sumOfWetness (Γ : hGam) (l : Launch) {M : hM} {r : Nat} {hk : Nat → Nat} {V : Nat → hB} {FS : Nat → Int32 × Bool}  (hr : rkS Γ M r hk) (hF : hkF M hk V FS)  : hMet Γ l yX3_sumOfWetness cX3_sumOfWetness 6 (some .int) rm_X3_sumOfWetness [.ref r] M (hpP M (hIt (fSum V) 0 40)) := by
  obtain ⟨hI, arr, hf, h1, h2, h3⟩ := hr
  refine hMet_of (by decide +kernel) (Nat.le_of_ble_eq_true rfl) (hCat_cons rfl hCat_nil) (fun k C => ?_)
  show hG _ _ _ _ _ _ _ _ [some (.ref r), none, none, none, none, none] _
  refine g_iconst (q := 1) (0) C dX3_sumOfWetness_0 (by decide) rfl ?_
  refine g_istore1 (q := 2) C dX3_sumOfWetness_1 (by first | rfl | exact hNw_rf _) rfl ?_
  refine g_aload_n (q := 3) C dX3_sumOfWetness_2 rfl (by first | exact hRef_r _ | exact hRef_o _ | exact hRef_n) rfl ?_
  refine g_get (q := 6) C hcl_X3 0 (by decide) qw_112 rfl dX3_sumOfWetness_3 (by first | exact h1 | exact hF j hlt) rfl rfl ?_
  refine g_astore2 (q := 7) C dX3_sumOfWetness_6 (by first | exact hRef_r _ | exact hRef_o _ | exact hRef_n) (by first | rfl | exact hNw_rf _) rfl ?_
  refine g_aload_n (q := 8) C dX3_sumOfWetness_7 rfl (by first | exact hRef_r _ | exact hRef_o _ | exact hRef_n) rfl ?_
  refine g_alenH (q := 9) C dX3_sumOfWetness_8 (by exact h2) rfl ?_
  refine g_istore3 (q := 10) C dX3_sumOfWetness_9 (by first | rfl | exact hNw_rf _) rfl ?_
  refine g_iconst (q := 11) (0) C dX3_sumOfWetness_10 (by decide) rfl ?_
  refine g_istore4 (q := 13) C dX3_sumOfWetness_11 (by first | rfl | exact hNw_rf _) rfl ?_
  refine h_loopU (P := fun j => ∀ (acc : Int32) (o : Option Value), acc = hIt (fSum V) 0 j → hG Γ k _ _ M 0 0 13 [some (.ref r), some (.int acc), some (.ref arr), some (.int (nI 40)), some (.int (nI j)), o] []) (N := 40) (fun j hj ih => ?_) 0 (Nat.zero_le _) _ _ rfl
  intro acc o hacc
  refine g_iload (q := 15) C dX3_sumOfWetness_13 rfl rfl ?_
  refine g_iload_n (q := 16) C dX3_sumOfWetness_15 rfl rfl ?_
  refine g_icmp_ge (t := 47) (q := 19) C dX3_sumOfWetness_16 (by decide) rfl (fun c_16 => ?_) (fun c_16 => ?_)
  · skip
    have hj40 := nI_ge_eq hj (by decide) c_16
    subst hj40
    refine g_iload_n (q := 48) C dX3_sumOfWetness_47 rfl rfl ?_
    exact g_iret C dX3_sumOfWetness_48 (⟨hacc, rfl⟩) (Nat.zero_le _) (Nat.zero_le _)
  · skip
    have hlt := nI_nge_lt hj (by decide) c_16
    refine g_aload_n (q := 20) C dX3_sumOfWetness_19 rfl (by first | exact hRef_r _ | exact hRef_o _ | exact hRef_n) rfl ?_
    refine g_iload (q := 22) C dX3_sumOfWetness_20 rfl rfl ?_
    refine g_aaldHr (q := 23) C j rfl hlt (by decide) dX3_sumOfWetness_22 (by exact h2) (h3 j hlt) rfl ?_
    refine g_astore5 (q := 25) C dX3_sumOfWetness_23 (by first | exact hRef_r _ | exact hRef_o _ | exact hRef_n) (by first | rfl | exact hNw_rf _) rfl ?_
    refine g_aload (q := 27) C dX3_sumOfWetness_25 rfl (by first | exact hRef_r _ | exact hRef_o _ | exact hRef_n) rfl ?_
    refine g_callV0P (q := 30) C hy_X1_isTaken (c_X1_isTaken Γ l (hF j hlt)) qw_262 (by exact hF j hlt) rfl ⟨Nat.le_of_ble_eq_true rfl, Nat.le_of_ble_eq_true rfl⟩ (Nat.le_of_ble_eq_true rfl) rfl dX3_sumOfWetness_27 ⟨rfl, rfl⟩ ⟨Nat.zero_le _, Nat.zero_le _⟩ rfl ?_
    refine g_ifB_eq (t := 41) (q := 33) C dX3_sumOfWetness_30 (by decide) rfl (fun c_30 => ?_) (fun c_30 => ?_)
    · skip
      refine g_iinc4 (q := 44) (1) C dX3_sumOfWetness_41 (by decide) (by first | rfl | exact hNw_rf _) rfl ?_
      refine g_goto (t := 13) C dX3_sumOfWetness_44 (by decide) ?_
      rw [nI_1]
      refine ih hlt _ _ ?_
      subst hacc; simp [hIt_s, fSum, c_30]
    · skip
      refine g_iload_n (q := 34) C dX3_sumOfWetness_33 rfl rfl ?_
      refine g_aload (q := 36) C dX3_sumOfWetness_34 rfl (by first | exact hRef_r _ | exact hRef_o _ | exact hRef_n) rfl ?_
      refine g_callV0P (q := 39) C hy_X1_wetness (c_X1_wetness Γ l (hF j hlt)) qw_404 (by exact hF j hlt) rfl ⟨Nat.le_of_ble_eq_true rfl, Nat.le_of_ble_eq_true rfl⟩ (Nat.le_of_ble_eq_true rfl) rfl dX3_sumOfWetness_36 ⟨rfl, rfl⟩ ⟨Nat.zero_le _, Nat.zero_le _⟩ rfl ?_
      refine g_iadd (q := 40) C dX3_sumOfWetness_39 rfl ?_
      refine g_istore1 (q := 41) C dX3_sumOfWetness_40 (by first | rfl | exact hNw_rf _) rfl ?_
      refine g_iinc4 (q := 44) (1) C dX3_sumOfWetness_41 (by decide) (by first | rfl | exact hNw_rf _) rfl ?_
      refine g_goto (t := 13) C dX3_sumOfWetness_44 (by decide) ?_
      rw [nI_1]
      refine ih hlt _ _ ?_
      subst hacc; simp [hIt_s, fSum, c_30]
set_option maxRecDepth 100000 in
set_option maxHeartbeats 4000000 in
theorem c_X3_bundlesOf (Γ : hGam) (l : Launch) {M : hM} {r : Nat} {hk : Nat → Nat} {V : Nat → hB} {FS : Nat → Int32 × Bool} (o9 : Nat) (hr : rkS Γ M r hk) (hF : hkF M hk V FS)  : hMet Γ l yX3_bundlesOf cX3_bundlesOf 7 (some .int) rm_X3_bundlesOf [.ref r, .ref o9] M (hpP M (hIt (fCntO V (some o9)) 0 40)) := by
  obtain ⟨hI, arr, hf, h1, h2, h3⟩ := hr
  refine hMet_of (by decide +kernel) (Nat.le_of_ble_eq_true rfl) (hCat_cons rfl (hCat_cons rfl hCat_nil)) (fun k C => ?_)
  show hG _ _ _ _ _ _ _ _ [some (.ref r), some (.ref o9), none, none, none, none, none] _
  refine g_iconst (q := 1) (0) C dX3_bundlesOf_0 (by decide) rfl ?_
  refine g_istore2 (q := 2) C dX3_bundlesOf_1 (by first | rfl | exact hNw_rf _) rfl ?_
  refine g_aload_n (q := 3) C dX3_bundlesOf_2 rfl (by first | exact hRef_r _ | exact hRef_o _ | exact hRef_n) rfl ?_
  refine g_get (q := 6) C hcl_X3 0 (by decide) qw_112 rfl dX3_bundlesOf_3 (by first | exact h1 | exact hF j hlt) rfl rfl ?_
  refine g_astore3 (q := 7) C dX3_bundlesOf_6 (by first | exact hRef_r _ | exact hRef_o _ | exact hRef_n) (by first | rfl | exact hNw_rf _) rfl ?_
  refine g_aload_n (q := 8) C dX3_bundlesOf_7 rfl (by first | exact hRef_r _ | exact hRef_o _ | exact hRef_n) rfl ?_
  refine g_alenH (q := 9) C dX3_bundlesOf_8 (by exact h2) rfl ?_
  refine g_istore4 (q := 11) C dX3_bundlesOf_9 (by first | rfl | exact hNw_rf _) rfl ?_
  refine g_iconst (q := 12) (0) C dX3_bundlesOf_11 (by decide) rfl ?_
  refine g_istore5 (q := 14) C dX3_bundlesOf_12 (by first | rfl | exact hNw_rf _) rfl ?_
  refine h_loopU (P := fun j => ∀ (acc : Int32) (o : Option Value), acc = hIt (fCntO V (some o9)) 0 j → hG Γ k _ _ M 0 0 14 [some (.ref r), some (.ref o9), some (.int acc), some (.ref arr), some (.int (nI 40)), some (.int (nI j)), o] []) (N := 40) (fun j hj ih => ?_) 0 (Nat.zero_le _) _ _ rfl
  intro acc o hacc
  refine g_iload (q := 16) C dX3_bundlesOf_14 rfl rfl ?_
  refine g_iload (q := 18) C dX3_bundlesOf_16 rfl rfl ?_
  refine g_icmp_ge (t := 45) (q := 21) C dX3_bundlesOf_18 (by decide) rfl (fun c_18 => ?_) (fun c_18 => ?_)
  · skip
    have hj40 := nI_ge_eq hj (by decide) c_18
    subst hj40
    refine g_iload_n (q := 46) C dX3_bundlesOf_45 rfl rfl ?_
    exact g_iret C dX3_bundlesOf_46 (⟨hacc, rfl⟩) (Nat.zero_le _) (Nat.zero_le _)
  · skip
    have hlt := nI_nge_lt hj (by decide) c_18
    refine g_aload_n (q := 22) C dX3_bundlesOf_21 rfl (by first | exact hRef_r _ | exact hRef_o _ | exact hRef_n) rfl ?_
    refine g_iload (q := 24) C dX3_bundlesOf_22 rfl rfl ?_
    refine g_aaldHr (q := 25) C j rfl hlt (by decide) dX3_bundlesOf_24 (by exact h2) (h3 j hlt) rfl ?_
    refine g_astore6 (q := 27) C dX3_bundlesOf_25 (by first | exact hRef_r _ | exact hRef_o _ | exact hRef_n) (by first | rfl | exact hNw_rf _) rfl ?_
    refine g_aload (q := 29) C dX3_bundlesOf_27 rfl (by first | exact hRef_r _ | exact hRef_o _ | exact hRef_n) rfl ?_
    refine g_aload_n (q := 30) C dX3_bundlesOf_29 rfl (by first | exact hRef_r _ | exact hRef_o _ | exact hRef_n) rfl ?_
    refine g_callV1P (q := 33) C hy_X1_isTakenBy (c_X1_isTakenBy Γ l (some o9) (hF j hlt)) qw_395 (by exact hF j hlt) rfl ⟨Nat.le_of_ble_eq_true rfl, Nat.le_of_ble_eq_true rfl⟩ (Nat.le_of_ble_eq_true rfl) rfl dX3_bundlesOf_30 ⟨rfl, rfl⟩ ⟨Nat.zero_le _, Nat.zero_le _⟩ rfl ?_
    refine g_ifB_eq (t := 39) (q := 36) C dX3_bundlesOf_33 (by decide) rfl (fun c_33 => ?_) (fun c_33 => ?_)
    · skip
      refine g_iinc5 (q := 42) (1) C dX3_bundlesOf_39 (by decide) (by first | rfl | exact hNw_rf _) rfl ?_
      refine g_goto (t := 14) C dX3_bundlesOf_42 (by decide) ?_
      rw [nI_1]
      refine ih hlt _ _ ?_
      subst hacc; simp [hIt_s, fCntO, c_33]
    · skip
      refine g_iinc2 (q := 39) (1) C dX3_bundlesOf_36 (by decide) (by first | rfl | exact hNw_rf _) rfl ?_
      refine g_iinc5 (q := 42) (1) C dX3_bundlesOf_39 (by decide) (by first | rfl | exact hNw_rf _) rfl ?_
      refine g_goto (t := 14) C dX3_bundlesOf_42 (by decide) ?_
      rw [nI_1]
      refine ih hlt _ _ ?_
      subst hacc; simp [hIt_s, fCntO, c_33]
set_option maxRecDepth 100000 in
set_option maxHeartbeats 4000000 in
theorem c_X3_mouldyBundlesOf (Γ : hGam) (l : Launch) {M : hM} {r : Nat} {hk : Nat → Nat} {V : Nat → hB} {FS : Nat → Int32 × Bool} (o9 : Nat) (hr : rkS Γ M r hk) (hF : hkF M hk V FS)  : hMet Γ l yX3_mouldyBundlesOf cX3_mouldyBundlesOf 7 (some .int) rm_X3_mouldyBundlesOf [.ref r, .ref o9] M (hpP M (hIt (fBadO V (some o9)) 0 40)) := by
  obtain ⟨hI, arr, hf, h1, h2, h3⟩ := hr
  refine hMet_of (by decide +kernel) (Nat.le_of_ble_eq_true rfl) (hCat_cons rfl (hCat_cons rfl hCat_nil)) (fun k C => ?_)
  show hG _ _ _ _ _ _ _ _ [some (.ref r), some (.ref o9), none, none, none, none, none] _
  refine g_iconst (q := 1) (0) C dX3_mouldyBundlesOf_0 (by decide) rfl ?_
  refine g_istore2 (q := 2) C dX3_mouldyBundlesOf_1 (by first | rfl | exact hNw_rf _) rfl ?_
  refine g_aload_n (q := 3) C dX3_mouldyBundlesOf_2 rfl (by first | exact hRef_r _ | exact hRef_o _ | exact hRef_n) rfl ?_
  refine g_get (q := 6) C hcl_X3 0 (by decide) qw_112 rfl dX3_mouldyBundlesOf_3 (by first | exact h1 | exact hF j hlt) rfl rfl ?_
  refine g_astore3 (q := 7) C dX3_mouldyBundlesOf_6 (by first | exact hRef_r _ | exact hRef_o _ | exact hRef_n) (by first | rfl | exact hNw_rf _) rfl ?_
  refine g_aload_n (q := 8) C dX3_mouldyBundlesOf_7 rfl (by first | exact hRef_r _ | exact hRef_o _ | exact hRef_n) rfl ?_
  refine g_alenH (q := 9) C dX3_mouldyBundlesOf_8 (by exact h2) rfl ?_
  refine g_istore4 (q := 11) C dX3_mouldyBundlesOf_9 (by first | rfl | exact hNw_rf _) rfl ?_
  refine g_iconst (q := 12) (0) C dX3_mouldyBundlesOf_11 (by decide) rfl ?_
  refine g_istore5 (q := 14) C dX3_mouldyBundlesOf_12 (by first | rfl | exact hNw_rf _) rfl ?_
  refine h_loopU (P := fun j => ∀ (acc : Int32) (o : Option Value), acc = hIt (fBadO V (some o9)) 0 j → hG Γ k _ _ M 0 0 14 [some (.ref r), some (.ref o9), some (.int acc), some (.ref arr), some (.int (nI 40)), some (.int (nI j)), o] []) (N := 40) (fun j hj ih => ?_) 0 (Nat.zero_le _) _ _ rfl
  intro acc o hacc
  refine g_iload (q := 16) C dX3_mouldyBundlesOf_14 rfl rfl ?_
  refine g_iload (q := 18) C dX3_mouldyBundlesOf_16 rfl rfl ?_
  refine g_icmp_ge (t := 53) (q := 21) C dX3_mouldyBundlesOf_18 (by decide) rfl (fun c_18 => ?_) (fun c_18 => ?_)
  · skip
    have hj40 := nI_ge_eq hj (by decide) c_18
    subst hj40
    refine g_iload_n (q := 54) C dX3_mouldyBundlesOf_53 rfl rfl ?_
    exact g_iret C dX3_mouldyBundlesOf_54 (⟨hacc, rfl⟩) (Nat.zero_le _) (Nat.zero_le _)
  · skip
    have hlt := nI_nge_lt hj (by decide) c_18
    refine g_aload_n (q := 22) C dX3_mouldyBundlesOf_21 rfl (by first | exact hRef_r _ | exact hRef_o _ | exact hRef_n) rfl ?_
    refine g_iload (q := 24) C dX3_mouldyBundlesOf_22 rfl rfl ?_
    refine g_aaldHr (q := 25) C j rfl hlt (by decide) dX3_mouldyBundlesOf_24 (by exact h2) (h3 j hlt) rfl ?_
    refine g_astore6 (q := 27) C dX3_mouldyBundlesOf_25 (by first | exact hRef_r _ | exact hRef_o _ | exact hRef_n) (by first | rfl | exact hNw_rf _) rfl ?_
    refine g_aload (q := 29) C dX3_mouldyBundlesOf_27 rfl (by first | exact hRef_r _ | exact hRef_o _ | exact hRef_n) rfl ?_
    refine g_aload_n (q := 30) C dX3_mouldyBundlesOf_29 rfl (by first | exact hRef_r _ | exact hRef_o _ | exact hRef_n) rfl ?_
    refine g_callV1P (q := 33) C hy_X1_isTakenBy (c_X1_isTakenBy Γ l (some o9) (hF j hlt)) qw_395 (by exact hF j hlt) rfl ⟨Nat.le_of_ble_eq_true rfl, Nat.le_of_ble_eq_true rfl⟩ (Nat.le_of_ble_eq_true rfl) rfl dX3_mouldyBundlesOf_30 ⟨rfl, rfl⟩ ⟨Nat.zero_le _, Nat.zero_le _⟩ rfl ?_
    refine g_ifB_eq (t := 47) (q := 36) C dX3_mouldyBundlesOf_33 (by decide) rfl (fun c_33 => ?_) (fun c_33 => ?_)
    · skip
      refine g_iinc5 (q := 50) (1) C dX3_mouldyBundlesOf_47 (by decide) (by first | rfl | exact hNw_rf _) rfl ?_
      refine g_goto (t := 14) C dX3_mouldyBundlesOf_50 (by decide) ?_
      rw [nI_1]
      refine ih hlt _ _ ?_
      subst hacc; simp [hIt_s, fBadO, c_33]
    · skip
      refine g_aload (q := 38) C dX3_mouldyBundlesOf_36 rfl (by first | exact hRef_r _ | exact hRef_o _ | exact hRef_n) rfl ?_
      refine g_callV0P (q := 41) C hy_X1_isMouldy (c_X1_isMouldy Γ l (hF j hlt)) qw_367 (by exact hF j hlt) rfl ⟨Nat.le_of_ble_eq_true rfl, Nat.le_of_ble_eq_true rfl⟩ (Nat.le_of_ble_eq_true rfl) rfl dX3_mouldyBundlesOf_38 ⟨rfl, rfl⟩ ⟨Nat.zero_le _, Nat.zero_le _⟩ rfl ?_
      refine g_ifB_eq (t := 47) (q := 44) C dX3_mouldyBundlesOf_41 (by decide) rfl (fun c_41 => ?_) (fun c_41 => ?_)
      · skip
        refine g_iinc5 (q := 50) (1) C dX3_mouldyBundlesOf_47 (by decide) (by first | rfl | exact hNw_rf _) rfl ?_
        refine g_goto (t := 14) C dX3_mouldyBundlesOf_50 (by decide) ?_
        rw [nI_1]
        refine ih hlt _ _ ?_
        subst hacc; simp [hIt_s, fBadO, c_33, c_41]
      · skip
        refine g_iinc2 (q := 47) (1) C dX3_mouldyBundlesOf_44 (by decide) (by first | rfl | exact hNw_rf _) rfl ?_
        refine g_iinc5 (q := 50) (1) C dX3_mouldyBundlesOf_47 (by decide) (by first | rfl | exact hNw_rf _) rfl ?_
        refine g_goto (t := 14) C dX3_mouldyBundlesOf_50 (by decide) ?_
        rw [nI_1]
        refine ih hlt _ _ ?_
        subst hacc; simp [hIt_s, fBadO, c_33, c_41]
set_option maxRecDepth 100000 in
set_option maxHeartbeats 4000000 in
theorem c_X3_leastCleanWetnessOf (Γ : hGam) (l : Launch) {M : hM} {r : Nat} {hk : Nat → Nat} {V : Nat → hB} {FS : Nat → Int32 × Bool} (o9 : Nat) (hr : rkS Γ M r hk) (hF : hkF M hk V FS)  : hMet Γ l yX3_leastCleanWetnessOf cX3_leastCleanWetnessOf 7 (some .int) rm_X3_leastCleanWetnessOf [.ref r, .ref o9] M (hpP M (hIt (fLst V (some o9)) (-1) 40)) := by
  obtain ⟨hI, arr, hf, h1, h2, h3⟩ := hr
  refine hMet_of (by decide +kernel) (Nat.le_of_ble_eq_true rfl) (hCat_cons rfl (hCat_cons rfl hCat_nil)) (fun k C => ?_)
  show hG _ _ _ _ _ _ _ _ [some (.ref r), some (.ref o9), none, none, none, none, none] _
  refine g_iconst (q := 1) (-1) C dX3_leastCleanWetnessOf_0 (by decide) rfl ?_
  refine g_istore2 (q := 2) C dX3_leastCleanWetnessOf_1 (by first | rfl | exact hNw_rf _) rfl ?_
  refine g_aload_n (q := 3) C dX3_leastCleanWetnessOf_2 rfl (by first | exact hRef_r _ | exact hRef_o _ | exact hRef_n) rfl ?_
  refine g_get (q := 6) C hcl_X3 0 (by decide) qw_112 rfl dX3_leastCleanWetnessOf_3 (by first | exact h1 | exact hF j hlt) rfl rfl ?_
  refine g_astore3 (q := 7) C dX3_leastCleanWetnessOf_6 (by first | exact hRef_r _ | exact hRef_o _ | exact hRef_n) (by first | rfl | exact hNw_rf _) rfl ?_
  refine g_aload_n (q := 8) C dX3_leastCleanWetnessOf_7 rfl (by first | exact hRef_r _ | exact hRef_o _ | exact hRef_n) rfl ?_
  refine g_alenH (q := 9) C dX3_leastCleanWetnessOf_8 (by exact h2) rfl ?_
  refine g_istore4 (q := 11) C dX3_leastCleanWetnessOf_9 (by first | rfl | exact hNw_rf _) rfl ?_
  refine g_iconst (q := 12) (0) C dX3_leastCleanWetnessOf_11 (by decide) rfl ?_
  refine g_istore5 (q := 14) C dX3_leastCleanWetnessOf_12 (by first | rfl | exact hNw_rf _) rfl ?_
  refine h_loopU (P := fun j => ∀ (acc : Int32) (o : Option Value), acc = hIt (fLst V (some o9)) (-1) j → hG Γ k _ _ M 0 0 14 [some (.ref r), some (.ref o9), some (.int acc), some (.ref arr), some (.int (nI 40)), some (.int (nI j)), o] []) (N := 40) (fun j hj ih => ?_) 0 (Nat.zero_le _) _ _ rfl
  intro acc o hacc
  refine g_iload (q := 16) C dX3_leastCleanWetnessOf_14 rfl rfl ?_
  refine g_iload (q := 18) C dX3_leastCleanWetnessOf_16 rfl rfl ?_
  refine g_icmp_ge (t := 69) (q := 21) C dX3_leastCleanWetnessOf_18 (by decide) rfl (fun c_18 => ?_) (fun c_18 => ?_)
  · skip
    have hj40 := nI_ge_eq hj (by decide) c_18
    subst hj40
    refine g_iload_n (q := 70) C dX3_leastCleanWetnessOf_69 rfl rfl ?_
    exact g_iret C dX3_leastCleanWetnessOf_70 (⟨hacc, rfl⟩) (Nat.zero_le _) (Nat.zero_le _)
  · skip
    have hlt := nI_nge_lt hj (by decide) c_18
    refine g_aload_n (q := 22) C dX3_leastCleanWetnessOf_21 rfl (by first | exact hRef_r _ | exact hRef_o _ | exact hRef_n) rfl ?_
    refine g_iload (q := 24) C dX3_leastCleanWetnessOf_22 rfl rfl ?_
    refine g_aaldHr (q := 25) C j rfl hlt (by decide) dX3_leastCleanWetnessOf_24 (by exact h2) (h3 j hlt) rfl ?_
    refine g_astore6 (q := 27) C dX3_leastCleanWetnessOf_25 (by first | exact hRef_r _ | exact hRef_o _ | exact hRef_n) (by first | rfl | exact hNw_rf _) rfl ?_
    refine g_aload (q := 29) C dX3_leastCleanWetnessOf_27 rfl (by first | exact hRef_r _ | exact hRef_o _ | exact hRef_n) rfl ?_
    refine g_aload_n (q := 30) C dX3_leastCleanWetnessOf_29 rfl (by first | exact hRef_r _ | exact hRef_o _ | exact hRef_n) rfl ?_
    refine g_callV1P (q := 33) C hy_X1_isTakenBy (c_X1_isTakenBy Γ l (some o9) (hF j hlt)) qw_395 (by exact hF j hlt) rfl ⟨Nat.le_of_ble_eq_true rfl, Nat.le_of_ble_eq_true rfl⟩ (Nat.le_of_ble_eq_true rfl) rfl dX3_leastCleanWetnessOf_30 ⟨rfl, rfl⟩ ⟨Nat.zero_le _, Nat.zero_le _⟩ rfl ?_
    refine g_ifB_eq (t := 63) (q := 36) C dX3_leastCleanWetnessOf_33 (by decide) rfl (fun c_33 => ?_) (fun c_33 => ?_)
    · skip
      refine g_iinc5 (q := 66) (1) C dX3_leastCleanWetnessOf_63 (by decide) (by first | rfl | exact hNw_rf _) rfl ?_
      refine g_goto (t := 14) C dX3_leastCleanWetnessOf_66 (by decide) ?_
      rw [nI_1]
      refine ih hlt _ _ ?_
      rw [hIt_s, ← hacc]; simp only [fLst, c_33, if_true, if_false, Bool.false_eq_true]
    · skip
      refine g_aload (q := 38) C dX3_leastCleanWetnessOf_36 rfl (by first | exact hRef_r _ | exact hRef_o _ | exact hRef_n) rfl ?_
      refine g_callV0P (q := 41) C hy_X1_isMouldy (c_X1_isMouldy Γ l (hF j hlt)) qw_367 (by exact hF j hlt) rfl ⟨Nat.le_of_ble_eq_true rfl, Nat.le_of_ble_eq_true rfl⟩ (Nat.le_of_ble_eq_true rfl) rfl dX3_leastCleanWetnessOf_38 ⟨rfl, rfl⟩ ⟨Nat.zero_le _, Nat.zero_le _⟩ rfl ?_
      refine g_ifB_ne (t := 63) (q := 44) C dX3_leastCleanWetnessOf_41 (by decide) rfl (fun c_41 => ?_) (fun c_41 => ?_)
      · skip
        refine g_iinc5 (q := 66) (1) C dX3_leastCleanWetnessOf_63 (by decide) (by first | rfl | exact hNw_rf _) rfl ?_
        refine g_goto (t := 14) C dX3_leastCleanWetnessOf_66 (by decide) ?_
        rw [nI_1]
        refine ih hlt _ _ ?_
        rw [hIt_s, ← hacc]; simp only [fLst, c_33, c_41, if_true, if_false, Bool.false_eq_true]
      · skip
        refine g_iload_n (q := 45) C dX3_leastCleanWetnessOf_44 rfl rfl ?_
        refine g_if_lt (t := 57) (q := 48) C dX3_leastCleanWetnessOf_45 (by decide) rfl (fun c_45 => ?_) (fun c_45 => ?_)
        · skip
          refine g_aload (q := 59) C dX3_leastCleanWetnessOf_57 rfl (by first | exact hRef_r _ | exact hRef_o _ | exact hRef_n) rfl ?_
          refine g_callV0P (q := 62) C hy_X1_wetness (c_X1_wetness Γ l (hF j hlt)) qw_404 (by exact hF j hlt) rfl ⟨Nat.le_of_ble_eq_true rfl, Nat.le_of_ble_eq_true rfl⟩ (Nat.le_of_ble_eq_true rfl) rfl dX3_leastCleanWetnessOf_59 ⟨rfl, rfl⟩ ⟨Nat.zero_le _, Nat.zero_le _⟩ rfl ?_
          refine g_istore2 (q := 63) C dX3_leastCleanWetnessOf_62 (by first | rfl | exact hNw_rf _) rfl ?_
          refine g_iinc5 (q := 66) (1) C dX3_leastCleanWetnessOf_63 (by decide) (by first | rfl | exact hNw_rf _) rfl ?_
          refine g_goto (t := 14) C dX3_leastCleanWetnessOf_66 (by decide) ?_
          rw [nI_1]
          refine ih hlt _ _ ?_
          rw [hIt_s, ← hacc]; simp only [fLst, c_33, c_41, c_45, if_true, if_false, Bool.false_eq_true]
        · skip
          refine g_aload (q := 50) C dX3_leastCleanWetnessOf_48 rfl (by first | exact hRef_r _ | exact hRef_o _ | exact hRef_n) rfl ?_
          refine g_callV0P (q := 53) C hy_X1_wetness (c_X1_wetness Γ l (hF j hlt)) qw_404 (by exact hF j hlt) rfl ⟨Nat.le_of_ble_eq_true rfl, Nat.le_of_ble_eq_true rfl⟩ (Nat.le_of_ble_eq_true rfl) rfl dX3_leastCleanWetnessOf_50 ⟨rfl, rfl⟩ ⟨Nat.zero_le _, Nat.zero_le _⟩ rfl ?_
          refine g_iload_n (q := 54) C dX3_leastCleanWetnessOf_53 rfl rfl ?_
          refine g_icmp_ge (t := 63) (q := 57) C dX3_leastCleanWetnessOf_54 (by decide) rfl (fun c_54 => ?_) (fun c_54 => ?_)
          · skip
            refine g_iinc5 (q := 66) (1) C dX3_leastCleanWetnessOf_63 (by decide) (by first | rfl | exact hNw_rf _) rfl ?_
            refine g_goto (t := 14) C dX3_leastCleanWetnessOf_66 (by decide) ?_
            rw [nI_1]
            refine ih hlt _ _ ?_
            rw [hIt_s, ← hacc]; simp only [fLst, c_33, c_41, c_45, c_54, if_true, if_false, Bool.false_eq_true]
          · skip
            refine g_aload (q := 59) C dX3_leastCleanWetnessOf_57 rfl (by first | exact hRef_r _ | exact hRef_o _ | exact hRef_n) rfl ?_
            refine g_callV0P (q := 62) C hy_X1_wetness (c_X1_wetness Γ l (hF j hlt)) qw_404 (by exact hF j hlt) rfl ⟨Nat.le_of_ble_eq_true rfl, Nat.le_of_ble_eq_true rfl⟩ (Nat.le_of_ble_eq_true rfl) rfl dX3_leastCleanWetnessOf_59 ⟨rfl, rfl⟩ ⟨Nat.zero_le _, Nat.zero_le _⟩ rfl ?_
            refine g_istore2 (q := 63) C dX3_leastCleanWetnessOf_62 (by first | rfl | exact hNw_rf _) rfl ?_
            refine g_iinc5 (q := 66) (1) C dX3_leastCleanWetnessOf_63 (by decide) (by first | rfl | exact hNw_rf _) rfl ?_
            refine g_goto (t := 14) C dX3_leastCleanWetnessOf_66 (by decide) ?_
            rw [nI_1]
            refine ih hlt _ _ ?_
            rw [hIt_s, ← hacc]; simp only [fLst, c_33, c_41, c_45, c_54, if_true, if_false, Bool.false_eq_true]
set_option maxRecDepth 100000 in
set_option maxHeartbeats 4000000 in
theorem c_X3_bundlesThatFit (Γ : hGam) (l : Launch) {M : hM} {r : Nat} {hk : Nat → Nat} {V : Nat → hB} {FS : Nat → Int32 × Bool} {o9 : Nat} {w9 : Bool} {oh : Option Nat} {many9 wet9 got9 : Int32} (hr : rkS Γ M r hk) (hF : hkF M hk V FS) (h9 : M o9 = some (w9, oOrder oh many9 wet9 got9)) : hMet Γ l yX3_bundlesThatFit cX3_bundlesThatFit 7 (some .int) rm_X3_bundlesThatFit [.ref r, .ref o9] M (hpP M (hIt (fFit V oh wet9) 0 40)) := by
  obtain ⟨hI, arr, hf, h1, h2, h3⟩ := hr
  refine hMet_of (by decide +kernel) (Nat.le_of_ble_eq_true rfl) (hCat_cons rfl (hCat_cons rfl hCat_nil)) (fun k C => ?_)
  show hG _ _ _ _ _ _ _ _ [some (.ref r), some (.ref o9), none, none, none, none, none] _
  refine g_iconst (q := 1) (0) C dX3_bundlesThatFit_0 (by decide) rfl ?_
  refine g_istore2 (q := 2) C dX3_bundlesThatFit_1 (by first | rfl | exact hNw_rf _) rfl ?_
  refine g_aload_n (q := 3) C dX3_bundlesThatFit_2 rfl (by first | exact hRef_r _ | exact hRef_o _ | exact hRef_n) rfl ?_
  refine g_get (q := 6) C hcl_X3 0 (by decide) qw_112 rfl dX3_bundlesThatFit_3 (by first | exact h1 | exact hF j hlt) rfl rfl ?_
  refine g_astore3 (q := 7) C dX3_bundlesThatFit_6 (by first | exact hRef_r _ | exact hRef_o _ | exact hRef_n) (by first | rfl | exact hNw_rf _) rfl ?_
  refine g_aload_n (q := 8) C dX3_bundlesThatFit_7 rfl (by first | exact hRef_r _ | exact hRef_o _ | exact hRef_n) rfl ?_
  refine g_alenH (q := 9) C dX3_bundlesThatFit_8 (by exact h2) rfl ?_
  refine g_istore4 (q := 11) C dX3_bundlesThatFit_9 (by first | rfl | exact hNw_rf _) rfl ?_
  refine g_iconst (q := 12) (0) C dX3_bundlesThatFit_11 (by decide) rfl ?_
  refine g_istore5 (q := 14) C dX3_bundlesThatFit_12 (by first | rfl | exact hNw_rf _) rfl ?_
  refine h_loopU (P := fun j => ∀ (acc : Int32) (o : Option Value), acc = hIt (fFit V oh wet9) 0 j → hG Γ k _ _ M 0 0 14 [some (.ref r), some (.ref o9), some (.int acc), some (.ref arr), some (.int (nI 40)), some (.int (nI j)), o] []) (N := 40) (fun j hj ih => ?_) 0 (Nat.zero_le _) _ _ rfl
  intro acc o hacc
  refine g_iload (q := 16) C dX3_bundlesThatFit_14 rfl rfl ?_
  refine g_iload (q := 18) C dX3_bundlesThatFit_16 rfl rfl ?_
  refine g_icmp_ge (t := 45) (q := 21) C dX3_bundlesThatFit_18 (by decide) rfl (fun c_18 => ?_) (fun c_18 => ?_)
  · skip
    have hj40 := nI_ge_eq hj (by decide) c_18
    subst hj40
    refine g_iload_n (q := 46) C dX3_bundlesThatFit_45 rfl rfl ?_
    exact g_iret C dX3_bundlesThatFit_46 (⟨hacc, rfl⟩) (Nat.zero_le _) (Nat.zero_le _)
  · skip
    have hlt := nI_nge_lt hj (by decide) c_18
    refine g_aload_n (q := 22) C dX3_bundlesThatFit_21 rfl (by first | exact hRef_r _ | exact hRef_o _ | exact hRef_n) rfl ?_
    refine g_iload (q := 24) C dX3_bundlesThatFit_22 rfl rfl ?_
    refine g_aaldHr (q := 25) C j rfl hlt (by decide) dX3_bundlesThatFit_24 (by exact h2) (h3 j hlt) rfl ?_
    refine g_astore6 (q := 27) C dX3_bundlesThatFit_25 (by first | exact hRef_r _ | exact hRef_o _ | exact hRef_n) (by first | rfl | exact hNw_rf _) rfl ?_
    refine g_aload (q := 29) C dX3_bundlesThatFit_27 rfl (by first | exact hRef_r _ | exact hRef_o _ | exact hRef_n) rfl ?_
    refine g_aload_n (q := 30) C dX3_bundlesThatFit_29 rfl (by first | exact hRef_r _ | exact hRef_o _ | exact hRef_n) rfl ?_
    refine g_callV1P (q := 33) C hy_X1_fits (c_X1_fits Γ l (hF j hlt) h9) qw_299 (by exact hF j hlt) rfl ⟨Nat.le_of_ble_eq_true rfl, Nat.le_of_ble_eq_true rfl⟩ (Nat.le_of_ble_eq_true rfl) rfl dX3_bundlesThatFit_30 ⟨rfl, rfl⟩ ⟨Nat.zero_le _, Nat.zero_le _⟩ rfl ?_
    refine g_ifB_eq (t := 39) (q := 36) C dX3_bundlesThatFit_33 (by decide) rfl (fun c_33 => ?_) (fun c_33 => ?_)
    · skip
      refine g_iinc5 (q := 42) (1) C dX3_bundlesThatFit_39 (by decide) (by first | rfl | exact hNw_rf _) rfl ?_
      refine g_goto (t := 14) C dX3_bundlesThatFit_42 (by decide) ?_
      rw [nI_1]
      refine ih hlt _ _ ?_
      subst hacc; rw [hIt_s]; unfold fFit bFit; simp only [c_33, if_true, if_false, Bool.false_eq_true]
    · skip
      refine g_iinc2 (q := 39) (1) C dX3_bundlesThatFit_36 (by decide) (by first | rfl | exact hNw_rf _) rfl ?_
      refine g_iinc5 (q := 42) (1) C dX3_bundlesThatFit_39 (by decide) (by first | rfl | exact hNw_rf _) rfl ?_
      refine g_goto (t := 14) C dX3_bundlesThatFit_42 (by decide) ?_
      rw [nI_1]
      refine ih hlt _ _ ?_
      subst hacc; rw [hIt_s]; unfold fFit bFit; simp only [c_33, if_true, if_false, Bool.false_eq_true]
