/-! a rack as it is made: t hooks stand -/
def ckAft (hk : Nat → Nat) (t i : Nat) : Option Nat := if i % 8 = 7 ∨ i + 1 = t then none else some (hk (i + 1))
abbrev hkN (hk : Nat → Nat) (t i : Nat) : va_E := oHook (nI (i / 8)) (bef hk i) (ckAft hk t i) none 0 0 0 0 0 0
def rkIn (Γ : hGam) (M M1 : hM) (r arr : Nat) (hk : Nat → Nat) (f : Nat → Option Nat) (t : Nat) : Prop :=
  M1 r = some (true, oRack (some arr)) ∧ M1 arr = some (true, aH Γ 40 f) ∧ (∀ i, i < t → f i = some (hk i)) ∧ (∀ i, i < t → M1 (hk i) = some (true, hkN hk t i)) ∧ (∀ i j, i < t → j < t → hk i = hk j → i = j) ∧ (∀ i, i < t → M (hk i) = none) ∧ M arr = none ∧ hOff M M1 (fun a => a = r ∨ M a = none)
theorem bef_up {hk : Nat → Nat} {t b i : Nat} (hi : i ≤ t) (h0 : i % 8 ≠ 0 ∨ True) : bef (fUp hk t b) i = bef hk i := by
  unfold bef
  by_cases h : i % 8 = 0
  · simp [h]
  · rw [if_neg h, if_neg h, fUp_n (by omega)]
theorem rkIn.fresh {Γ : hGam} {M M1 : hM} {r arr : Nat} {hk : Nat → Nat} {f : Nat → Option Nat} {t : Nat} (h : rkIn Γ M M1 r arr hk f t) {b : Nat} (hb : M1 b = none) : M b = none ∧ b ≠ r ∧ b ≠ arr ∧ ∀ i, i < t → b ≠ hk i := by
  obtain ⟨a1, a2, a3, a4, a5, a6, a7, a8⟩ := h
  have n1 : b ≠ r := fun q => by rw [q, a1] at hb; cases hb
  refine ⟨?_, n1, fun q => by (rw [q, a2] at hb; cases hb), fun i hi q => by rw [q, a4 i hi] at hb; cases hb⟩
  cases hm : M b with
  | none => rfl
  | some x =>
    have := a8 b (fun q => q.elim n1 (fun q => by rw [hm] at q; cases q))
    rw [hb, hm] at this
    cases this
theorem rkIn.step {Γ : hGam} {M M1 : hM} {r arr : Nat} {hk : Nat → Nat} {f : Nat → Option Nat} {t : Nat} (h : rkIn Γ M M1 r arr hk f t) {b : Nat} (hb : M1 b = none) (M5 : hM)
    (h5 : ∀ a, a ≠ b → (∀ i, i < t → a ≠ hk i) → M5 a = M1 a) (hnew : M5 b = some (true, oHook (nI (t / 8)) (bef hk t) none none 0 0 0 0 0 0)) (hold : ∀ i, i < t → M5 (hk i) = some (true, hkN (fUp hk t b) (t + 1) i)) :
    rkIn Γ M (hU M5 arr (aH Γ 40 (va_up f t (some b)))) r arr (fUp hk t b) (va_up f t (some b)) (t + 1) := by
  obtain ⟨g1, g2, g3, g4⟩ := h.fresh hb
  obtain ⟨a1, a2, a3, a4, a5, a6, a7, a8⟩ := h
  have nr : r ≠ arr := fun q => by rw [q, a2] at a1; cases a1
  have na : ∀ i, i < t → arr ≠ hk i := fun i hi q => by rw [q, a4 i hi] at a2; cases a2
  have nrk : ∀ i, i < t → r ≠ hk i := fun i hi q => by rw [q, a4 i hi] at a1; cases a1
  refine ⟨?_, hU_s _ _ _, ?_, ?_, ?_, ?_, a7, ?_⟩
  · rw [hU_n nr, h5 r (Ne.symm g2) nrk]; exact a1
  · intro i hi
    by_cases hit : i = t
    · subst hit; rw [fUp_s, va_up_self]
    · rw [fUp_n hit, va_up_ne _ _ hit]; exact a3 i (by omega)
  · intro i hi
    by_cases hit : i = t
    · subst hit
      rw [fUp_s, hU_n g3, hnew]
      have e2 : ckAft (fUp hk i b) (i + 1) i = none := if_pos (Or.inr rfl)
      show _ = some (true, oHook (nI (i / 8)) (bef (fUp hk i b) i) (ckAft (fUp hk i b) (i + 1) i) none 0 0 0 0 0 0)
      rw [bef_up (Nat.le_refl i) (Or.inr trivial), e2]
    · rw [fUp_n hit, hU_n (Ne.symm (na i (by omega)))]
      exact hold i (by omega)
  · intro i j hi hj hij
    by_cases hit : i = t
    · by_cases hjt : j = t
      · omega
      · subst hit
        rw [fUp_s, fUp_n hjt] at hij
        exact absurd hij (g4 j (by omega))
    · by_cases hjt : j = t
      · subst hjt
        rw [fUp_s, fUp_n hit] at hij
        exact absurd hij.symm (g4 i (by omega))
      · rw [fUp_n hit, fUp_n hjt] at hij
        exact a5 i j (by omega) (by omega) hij
  · intro i hi
    by_cases hit : i = t
    · subst hit; rw [fUp_s]; exact g1
    · rw [fUp_n hit]; exact a6 i (by omega)
  · intro a ha
    have n1 : a ≠ arr := fun q => ha (Or.inr (by rw [q]; exact a7))
    have n2 : a ≠ b := fun q => ha (Or.inr (by rw [q]; exact g1))
    have n3 : ∀ i, i < t → a ≠ hk i := fun i hi q => ha (Or.inr (by rw [q]; exact a6 i hi))
    rw [hU_n n1, h5 a n2 n3]
    exact a8 a ha
theorem ck_keep {hk : Nat → Nat} {t b i : Nat} (hi : i < t) (hne : i + 1 ≠ t ∨ t % 8 = 0) : hkN (fUp hk t b) (t + 1) i = hkN hk t i := by
  have e1 : bef (fUp hk t b) i = bef hk i := bef_up (by omega) (Or.inr trivial)
  have e2 : ckAft (fUp hk t b) (t + 1) i = ckAft hk t i := by
    unfold ckAft
    by_cases h7 : i % 8 = 7
    · simp [h7]
    · have h1 : ¬ (i + 1 = t) := by omega
      have h2 : ¬ (i + 1 = t + 1) := by omega
      rw [if_neg (by omega), if_neg (by omega), fUp_n h1]
  show oHook _ _ _ _ _ _ _ _ _ _ = _
  rw [e1, e2]
theorem ck_last {hk : Nat → Nat} {t b i : Nat} (hi : i + 1 = t) (h8 : t % 8 ≠ 0) : hkN (fUp hk t b) (t + 1) i = oHook (nI (i / 8)) (bef hk i) (some b) none 0 0 0 0 0 0 := by
  have e1 : bef (fUp hk t b) i = bef hk i := bef_up (by omega) (Or.inr trivial)
  have e2 : ckAft (fUp hk t b) (t + 1) i = some b := by
    unfold ckAft
    rw [if_neg (by omega), hi, fUp_s]
  show oHook _ _ _ _ _ _ _ _ _ _ = _
  rw [e1, e2]
theorem rkIn.done {Γ : hGam} {M M1 : hM} {r arr : Nat} {hk : Nat → Nat} {f : Nat → Option Nat} (h : rkIn Γ M M1 r arr hk f 40) : rkS Γ M1 r hk ∧ hkF M1 hk (fun _ => (none, 0, 0, 0, 0)) (fun _ => (0, false)) ∧ (∀ i, i < 40 → M (hk i) = none) ∧ hOff M M1 (fun a => a = r ∨ M a = none) := by
  obtain ⟨a1, a2, a3, a4, a5, a6, a7, a8⟩ := h
  refine ⟨⟨a5, arr, f, a1, a2, a3⟩, fun i hi => ?_, a6, a8⟩
  rw [a4 i hi]
  have e2 : ckAft hk 40 i = aft hk i := by
    unfold ckAft aft
    by_cases h7 : i % 8 = 7
    · simp [h7]
    · rw [if_neg (by omega), if_neg h7]
  show some (true, oHook _ _ (ckAft hk 40 i) _ _ _ _ _ _ _) = _
  rw [e2]
  rfl
set_option maxRecDepth 100000 in
set_option maxHeartbeats 4000000 in
theorem c_X3_init (Γ : hGam) (l : Launch) {M : hM} {r : Nat} (h0 : M r = some (true, oRack none)) : hMet Γ l yX3_init cX3_init 5 none rm_X3_init [.ref r] M (hpV (fun M1 => ∃ hk : Nat → Nat, rkS Γ M1 r hk ∧ hkF M1 hk (fun _ => (none, 0, 0, 0, 0)) (fun _ => (0, false)) ∧ (∀ i, i < 40 → M (hk i) = none) ∧ hOff M M1 (fun a => a = r ∨ M a = none))) := by
  refine hMet_of (by decide +kernel) (Nat.le_of_ble_eq_true rfl) (hCat_cons rfl hCat_nil) (fun k C => ?_)
  show hG _ _ _ _ _ _ _ _ [some (.ref r), none, none, none, none] _
  refine g_aload_n (q := 1) C dX3_init_0 rfl (by first | exact hRef_r _ | exact hRef_o _ | exact hRef_n) rfl ?_
  refine g_objInit (q := 4) C qw_70 qw_37 qw_38 rfl dX3_init_1 (by decide) (by decide) rfl ?_
  refine g_aload_n (q := 5) C dX3_init_4 rfl (by first | exact hRef_r _ | exact hRef_o _ | exact hRef_n) rfl ?_
  refine g_bipush (q := 7) (40) C dX3_init_5 (by decide) rfl ?_
  refine g_newH (q := 10) C qw_71 (N := 40) rfl (by decide) (by decide) (by decide) dX3_init_7 rfl (fun arr earr => ?_)
  refine g_putF (q := 13) C hcl_X3 0 (by decide) qw_112 rfl rfl rfl rfl rfl rfl dX3_init_10 (by exact (hU_n (fun q => by rw [← q, h0] at earr; cases earr)).trans h0) (Nat.le_of_ble_eq_true rfl) rfl ?_
  (try rw [hU_2])
  refine g_iconst (q := 14) (0) C dX3_init_13 (by decide) rfl ?_
  refine g_istore1 (q := 15) C dX3_init_14 (by first | rfl | exact hNw_rf _) rfl ?_
  refine g_widen (n' := 1 + 0 * 8) (z' := 40 + 10 * (0 * 8)) (by omega) (by omega) ?_
  refine h_loopU (P := fun s => ∀ (M1 : hM) (hk : Nat → Nat) (f : Nat → Option Nat) (o2 o3 o4 : Option Value), rkIn Γ M M1 r arr hk f (s * 8) → hG Γ k _ _ M1 (1 + (s * 8)) (40 + 10 * (s * 8)) 15 [some (.ref r), some (.int (nI s)), o2, o3, o4] []) (N := 5) (fun s hs ih => ?_) 0 (Nat.zero_le _) _ (fun _ => 0) (fun _ => none) _ _ _ ⟨hU_s _ _ _, by rw [hU_n (fun q => by rw [q, h0] at earr; cases earr), hU_s], fun i hi => by omega, fun i hi => by omega, fun i j hi => by omega, fun i hi => by omega, earr, fun a ha => by rw [hU_n (fun q => ha (Or.inl q)), hU_n (fun q => ha (Or.inr (by rw [q]; exact earr)))]⟩
  intro M1 hk f o2 o3 o4 hR1
  refine g_iload_n (q := 16) C dX3_init_15 rfl rfl ?_
  refine g_iconst (q := 17) (5) C dX3_init_16 (by decide) rfl ?_
  refine g_icmp_ge (t := 84) (q := 20) C dX3_init_17 (by decide) rfl (fun c_17 => ?_) (fun c_17 => ?_)
  · skip
    have hN := nI_ge_eq hs (by decide) c_17
    subst hN
    exact g_vret C dX3_init_84 (⟨hk, hR1.done⟩) (by decide) (by decide)
  · skip
    have hlt := nI_nge_lt hs (by decide) c_17
    refine g_null (q := 21) C dX3_init_20 rfl ?_
    refine g_astore2 (q := 22) C dX3_init_21 (by first | exact hRef_r _ | exact hRef_o _ | exact hRef_n) (by first | rfl | exact hNw_rf _) rfl ?_
    refine g_iconst (q := 23) (0) C dX3_init_22 (by decide) rfl ?_
    refine g_istore3 (q := 24) C dX3_init_23 (by first | rfl | exact hNw_rf _) rfl ?_
    refine h_loopU (P := fun h => ∀ (M2 : hM) (hk2 : Nat → Nat) (f2 : Nat → Option Nat) (bo : Option Nat) (o4 : Option Value), bo = (if h = 0 then none else some (hk2 (s * 8 + h - 1))) → rkIn Γ M M2 r arr hk2 f2 (s * 8 + h) → hG Γ k _ _ M2 (1 + (s * 8 + h)) (40 + 10 * (s * 8 + h)) 24 [some (.ref r), some (.int (nI s)), some (va_rf bo), some (.int (nI h)), o4] []) (N := 8) (fun h hh ih2 => ?_) 0 (Nat.zero_le _) _ hk f none _ rfl hR1
    intro M2 hk2 f2 bo o4b hbo hR2
    refine g_iload_n (q := 25) C dX3_init_24 rfl rfl ?_
    refine g_bipush (q := 27) (8) C dX3_init_25 (by decide) rfl ?_
    refine g_icmp_ge (t := 78) (q := 30) C dX3_init_27 (by decide) rfl (fun c_27 => ?_) (fun c_27 => ?_)
    · skip
      have hN2 := nI_ge_eq hh (by decide) c_27
      subst hN2
      refine g_iinc1 (q := 81) (1) C dX3_init_78 (by decide) (by first | rfl | exact hNw_rf _) rfl ?_
      refine g_goto (t := 15) C dX3_init_81 (by decide) ?_
      rw [nI_1]
      refine g_widen (n' := 1 + (s + 1) * 8) (z' := 40 + 10 * ((s + 1) * 8)) (by omega) (by omega) ?_
      exact ih hlt _ hk2 f2 _ _ _ (by rw [Nat.succ_mul]; exact hR2)
    · skip
      have hlt2 := nI_nge_lt hh (by decide) c_27
      have hix : s * 8 + h < 40 := by omega
      have hdv : nI s = nI ((s * 8 + h) / 8) := by rw [show (s * 8 + h) / 8 = s by omega]
      refine g_new (q := 33) C hcl_X1 qw_71 qw_73 qw_15 hfs_X1 (by show _ ≤ 41; omega) (by show _ ≤ 440; omega) dX3_init_30 rfl (fun b eb => ?_)
      refine g_dup (q := 34) C dX3_init_33 rfl rfl ?_
      refine g_iload_n (q := 35) C dX3_init_34 rfl rfl ?_
      refine g_callI1V (q := 38) C hy_X1_init (c_X1_init Γ l (nI s) (hU_s _ _ _)) qw_74 ⟨Nat.le_of_ble_eq_true rfl, Nat.le_of_ble_eq_true rfl⟩ (Nat.le_of_ble_eq_true rfl) rfl dX3_init_35 ⟨rfl, rfl⟩ ⟨by show _ ≤ 41; omega, by show _ ≤ 440; omega⟩ rfl (fun M_35 p_35 => ?_)
      refine g_astore4 (q := 40) C dX3_init_38 (by first | exact hRef_r _ | exact hRef_o _ | exact hRef_n) (by first | rfl | exact hNw_rf _) rfl ?_
      rw [hU_2] at p_35
      subst p_35
      refine g_aload (q := 42) C dX3_init_40 rfl (by first | exact hRef_r _ | exact hRef_o _ | exact hRef_n) rfl ?_
      refine g_aload_n (q := 43) C dX3_init_42 rfl (by first | exact hRef_r _ | exact hRef_o _ | exact hRef_n) rfl ?_
      refine g_put (q := 46) C hcl_X1 1 (by decide) qw_80 rfl rfl (by first | rfl | exact narO _) (by first | rfl | exact fitsB _ | exact fitsO _) dX3_init_43 (by exact hU_s _ _ _) (Nat.le_of_ble_eq_true rfl) rfl ?_
      (try rw [hU_2])
      refine g_aload_n (q := 47) C dX3_init_46 rfl (by first | exact hRef_r _ | exact hRef_o _ | exact hRef_n) rfl ?_
      refine g_ifnull (t := 56) (q := 50) C dX3_init_47 (by decide) rfl (fun e_47 => ?_) (fun y_47 e_47 => ?_)
      · subst e_47
        have hh0 : h = 0 := by
          rcases Nat.eq_zero_or_pos h with q | q
          · exact q
          · rw [if_neg (by omega)] at hbo; cases hbo
        have hbef : (none : Option Nat) = bef hk2 (s * 8 + h) := by unfold bef; rw [if_pos (by omega)]
        refine g_aload_n (q := 57) C dX3_init_56 rfl (by first | exact hRef_r _ | exact hRef_o _ | exact hRef_n) rfl ?_
        refine g_get (q := 60) C hcl_X3 0 (by decide) qw_112 rfl dX3_init_57 (by first | exact (hU_n (fun q => by rw [← q, hR2.1] at eb; cases eb)).trans hR2.1 | exact ((hU_n (fun q => by have e1 := hR2.2.2.2.1 _ hl1; rw [← q, hR2.1] at e1; cases e1)).trans (hU_n (fun q => by rw [← q, hR2.1] at eb; cases eb))).trans hR2.1) rfl rfl ?_
        refine g_iload_n (q := 61) C dX3_init_60 rfl rfl ?_
        refine g_bipush (q := 63) (8) C dX3_init_61 (by decide) rfl ?_
        refine g_imul (q := 64) C dX3_init_63 rfl ?_
        refine g_iload_n (q := 65) C dX3_init_64 rfl rfl ?_
        refine g_iadd (q := 66) C dX3_init_65 rfl ?_
        refine g_aload (q := 68) C dX3_init_66 rfl (by first | exact hRef_r _ | exact hRef_o _ | exact hRef_n) rfl ?_
        refine g_aastH (q := 69) C (s * 8 + h) ix_eq hix (by decide) dX3_init_68 (by first | exact (hU_n (fun q => by rw [← q, hR2.2.1] at eb; cases eb)).trans hR2.2.1 | exact ((hU_n (fun q => by have e1 := hR2.2.2.2.1 _ hl1; rw [← q, hR2.2.1] at e1; cases e1)).trans (hU_n (fun q => by rw [← q, hR2.2.1] at eb; cases eb))).trans hR2.2.1) (by first | exact hU_s _ _ _ | exact (hU_n ((hR2.fresh eb).2.2.2 _ hl1)).trans (hU_s _ _ _)) rfl ?_
        refine g_aload (q := 71) C dX3_init_69 rfl (by first | exact hRef_r _ | exact hRef_o _ | exact hRef_n) rfl ?_
        refine g_astore2 (q := 72) C dX3_init_71 (by first | exact hRef_r _ | exact hRef_o _ | exact hRef_n) (by first | rfl | exact hNw_rf _) rfl ?_
        refine g_iinc3 (q := 75) (1) C dX3_init_72 (by decide) (by first | rfl | exact hNw_rf _) rfl ?_
        refine g_goto (t := 24) C dX3_init_75 (by decide) ?_
        rw [nI_1]
        refine g_widen (n' := 1 + (s * 8 + (h + 1))) (z' := 40 + 10 * (s * 8 + (h + 1))) (by omega) (by omega) ?_
        refine ih2 hlt2 _ (fUp hk2 (s * 8 + h) b) (va_up f2 (s * 8 + h) (some b)) (some b) _ ?_ ?_
        · rw [if_neg (by omega), show s * 8 + (h + 1) - 1 = s * 8 + h by omega, fUp_s]
        · refine hR2.step eb _ ?_ ?_ ?_
          · intro a n1 n2; rw [hU_n n1]
          · rw [hU_s, hbef]; rw [hdv] <;> rfl
          · intro i hi; rw [hU_n (Ne.symm ((hR2.fresh eb).2.2.2 i hi)), ck_keep hi (by right; omega)]; exact hR2.2.2.2.1 i hi
      · subst e_47
        have hh0 : h ≠ 0 := fun q => by rw [if_pos q] at hbo; cases hbo
        rw [if_neg hh0] at hbo
        cases hbo
        have hl1 : s * 8 + h - 1 < s * 8 + h := by omega
        have hbef : some (hk2 (s * 8 + h - 1)) = bef hk2 (s * 8 + h) := by unfold bef; rw [if_neg (by omega)]
        have hprev : hU M2 b (oHook (nI s) (some (hk2 (s * 8 + h - 1))) none none 0 0 0 0 0 0) (hk2 (s * 8 + h - 1)) = some (true, hkN hk2 (s * 8 + h) (s * 8 + h - 1)) := by rw [hU_n (Ne.symm ((hR2.fresh eb).2.2.2 _ hl1))]; exact hR2.2.2.2.1 _ hl1
        refine g_aload_n (q := 51) C dX3_init_50 rfl (by first | exact hRef_r _ | exact hRef_o _ | exact hRef_n) rfl ?_
        refine g_aload (q := 53) C dX3_init_51 rfl (by first | exact hRef_r _ | exact hRef_o _ | exact hRef_n) rfl ?_
        refine g_put (q := 56) C hcl_X1 2 (by decide) qw_82 rfl rfl (by first | rfl | exact narO _) (by first | rfl | exact fitsB _ | exact fitsO _) dX3_init_53 (by exact hprev) (Nat.le_of_ble_eq_true rfl) rfl ?_
        (try rw [hU_2])
        have harr2 : True := trivial
        refine g_aload_n (q := 57) C dX3_init_56 rfl (by first | exact hRef_r _ | exact hRef_o _ | exact hRef_n) rfl ?_
        refine g_get (q := 60) C hcl_X3 0 (by decide) qw_112 rfl dX3_init_57 (by first | exact (hU_n (fun q => by rw [← q, hR2.1] at eb; cases eb)).trans hR2.1 | exact ((hU_n (fun q => by have e1 := hR2.2.2.2.1 _ hl1; rw [← q, hR2.1] at e1; cases e1)).trans (hU_n (fun q => by rw [← q, hR2.1] at eb; cases eb))).trans hR2.1) rfl rfl ?_
        refine g_iload_n (q := 61) C dX3_init_60 rfl rfl ?_
        refine g_bipush (q := 63) (8) C dX3_init_61 (by decide) rfl ?_
        refine g_imul (q := 64) C dX3_init_63 rfl ?_
        refine g_iload_n (q := 65) C dX3_init_64 rfl rfl ?_
        refine g_iadd (q := 66) C dX3_init_65 rfl ?_
        refine g_aload (q := 68) C dX3_init_66 rfl (by first | exact hRef_r _ | exact hRef_o _ | exact hRef_n) rfl ?_
        refine g_aastH (q := 69) C (s * 8 + h) ix_eq hix (by decide) dX3_init_68 (by first | exact (hU_n (fun q => by rw [← q, hR2.2.1] at eb; cases eb)).trans hR2.2.1 | exact ((hU_n (fun q => by have e1 := hR2.2.2.2.1 _ hl1; rw [← q, hR2.2.1] at e1; cases e1)).trans (hU_n (fun q => by rw [← q, hR2.2.1] at eb; cases eb))).trans hR2.2.1) (by first | exact hU_s _ _ _ | exact (hU_n ((hR2.fresh eb).2.2.2 _ hl1)).trans (hU_s _ _ _)) rfl ?_
        refine g_aload (q := 71) C dX3_init_69 rfl (by first | exact hRef_r _ | exact hRef_o _ | exact hRef_n) rfl ?_
        refine g_astore2 (q := 72) C dX3_init_71 (by first | exact hRef_r _ | exact hRef_o _ | exact hRef_n) (by first | rfl | exact hNw_rf _) rfl ?_
        refine g_iinc3 (q := 75) (1) C dX3_init_72 (by decide) (by first | rfl | exact hNw_rf _) rfl ?_
        refine g_goto (t := 24) C dX3_init_75 (by decide) ?_
        rw [nI_1]
        refine g_widen (n' := 1 + (s * 8 + (h + 1))) (z' := 40 + 10 * (s * 8 + (h + 1))) (by omega) (by omega) ?_
        refine ih2 hlt2 _ (fUp hk2 (s * 8 + h) b) (va_up f2 (s * 8 + h) (some b)) (some b) _ ?_ ?_
        · rw [if_neg (by omega), show s * 8 + (h + 1) - 1 = s * 8 + h by omega, fUp_s]
        · refine hR2.step eb _ ?_ ?_ ?_
          · intro a n1 n2; rw [hU_n (n2 _ hl1), hU_n n1]
          · rw [hU_n ((hR2.fresh eb).2.2.2 _ hl1), hU_s, hbef]; rw [hdv] <;> rfl
          · intro i hi
            by_cases hil : i = s * 8 + h - 1
            · rw [hil, hU_s, ck_last (by omega) (by omega)] <;> rfl
            · rw [hU_n (fun q => hil (hR2.2.2.2.2.1 i _ hi hl1 q)), hU_n (Ne.symm ((hR2.fresh eb).2.2.2 i hi)), ck_keep hi (by left; omega)]; exact hR2.2.2.2.1 i hi
