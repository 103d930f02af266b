/-! giving bundles to an order: hook by hook, the highest string first -/
def ixT (t : Nat) : Nat := (4 - t / 8) * 8 + t % 8
theorem ixT_at {s h : Nat} (hh : h < 8) : ixT (s * 8 + h) = (4 - s) * 8 + h := by
  unfold ixT
  have h1 : (s * 8 + h) / 8 = s := by omega
  have h2 : (s * 8 + h) % 8 = h := by omega
  rw [h1, h2]
abbrev gvT : Type := (Nat → hB) × Int32 × Int32
def gvS (oh : Option Nat) (many wet : Int32) : Nat → gvT → gvT := fun t s => if (decide (s.2.1 < many) && bFit (s.1 (ixT t)) oh wet) = true then (fUp s.1 (ixT t) (none, 0, 0, 0, 0), s.2.1 + 1, s.2.2 + 1) else s
def gvR (oh : Option Nat) (many wet got : Int32) (V : Nat → hB) (t : Nat) : gvT := hIt (gvS oh many wet) (V, got, 0) t
theorem hkAtO_in {hk : Nat → Nat} {a b : Nat} (ha : a ≤ 4) (hb : b ≤ 7) : hkAtO hk (nI a) (nI b) = some (hk (a * 8 + b)) := by
  have h1 : inStr (nI a) = true := by
    unfold inStr
    have e1 := nI_pos' (n := a) (by omega)
    have e2 := nI_le ha (by decide)
    simp only [Bool.and_eq_true, decide_eq_true_eq]
    exact ⟨e1, e2⟩
  have h2 : inHok (nI b) = true := by
    unfold inHok
    have e1 := nI_pos' (n := b) (by omega)
    have e2 := nI_le hb (by decide)
    simp only [Bool.and_eq_true, decide_eq_true_eq]
    exact ⟨e1, e2⟩
  unfold hkAtO
  rw [h1, h2, ixOf_nI ha hb]
  rfl
def strV (s : Nat) : Int32 := nI (5 - s) + (-1)
theorem strV_lt {s : Nat} (h : s < 5) : strV s = nI (4 - s) := by
  unfold strV
  rw [show 5 - s = (4 - s) + 1 by omega, pk_m1]
theorem strV_s {s : Nat} (h : s < 5) : strV s + (-1) = strV (s + 1) := by
  rw [strV_lt h]
  unfold strV
  rw [show 5 - (s + 1) = 4 - s by omega]
theorem strV_neg {s : Nat} (hs : s ≤ 5) (h : strV s < 0) : s = 5 := by
  rcases Nat.lt_or_ge s 5 with q | q
  · rw [strV_lt q] at h
    exact absurd h (nI_pos (by omega))
  · omega
theorem strV_pos {s : Nat} (hs : s ≤ 5) (h : ¬ strV s < 0) : s < 5 := by
  rcases Nat.lt_or_ge s 5 with q | q
  · exact q
  · have : s = 5 := by omega
    subst this
    exact absurd (by decide) h
theorem nI_ge_eq8 {j : Nat} (hj : j ≤ 8) (h : nI 8 ≤ nI j) : j = 8 := nI_ge_eq hj (by decide) h
set_option maxRecDepth 100000 in
set_option maxHeartbeats 4000000 in
theorem c_X3_giveTo (Γ : hGam) (l : Launch) {M : hM} {r : Nat} {hk : Nat → Nat} {V : Nat → hB} {FS : Nat → Int32 × Bool} {o : Nat} {oh : Option Nat} {many wet got : Int32} (hr : rkS Γ M r hk) (hF : hkF M hk V FS) (hO : M o = some (true, oOrder oh many wet got)) : hMet Γ l yX3_giveTo cX3_giveTo 6 (some .int) rm_X3_giveTo [.ref r, .ref o] M (hpI (fun x M1 => x = (gvR oh many wet got V 40).2.2 ∧ hkF M1 hk (gvR oh many wet got V 40).1 FS ∧ M1 o = some (true, oOrder oh many wet (gvR oh many wet got V 40).2.1) ∧ hOff M M1 (fun a => onHk hk a ∨ a = o))) := by
  obtain ⟨hI, arr, hf, h1, h2, h3⟩ := hr
  refine hMet_of (by decide +kernel) (Nat.le_of_ble_eq_true rfl) (hCat_cons rfl (hCat_cons rfl hCat_nil)) (fun k C => ?_)
  show hG _ _ _ _ _ _ _ _ [some (.ref r), some (.ref o), none, none, none, none] _
  refine g_iconst (q := 1) (0) C dX3_giveTo_0 (by decide) rfl ?_
  refine g_istore2 (q := 2) C dX3_giveTo_1 (by first | rfl | exact hNw_rf _) rfl ?_
  refine g_iconst (q := 3) (4) C dX3_giveTo_2 (by decide) rfl ?_
  refine g_istore3 (q := 4) C dX3_giveTo_3 (by first | rfl | exact hNw_rf _) rfl ?_
  refine h_loopU (P := fun s => ∀ (M1 : hM) (o4 o5 : Option Value), hkF M1 hk (gvR oh many wet got V (s * 8)).1 FS → M1 o = some (true, oOrder oh many wet (gvR oh many wet got V (s * 8)).2.1) → hOff M M1 (fun a => onHk hk a ∨ a = o) → hG Γ k _ _ M1 0 0 4 [some (.ref r), some (.ref o), some (.int (gvR oh many wet got V (s * 8)).2.2), some (.int (strV s)), o4, o5] []) (N := 5) (fun s hs ih => ?_) 0 (Nat.zero_le _) M _ _ hF hO hOff.rf
  intro M1 o4 o5 hF1 hO1 ho1
  refine g_iload_n (q := 5) C dX3_giveTo_4 rfl rfl ?_
  refine g_if_lt (t := 78) (q := 8) C dX3_giveTo_5 (by decide) rfl (fun c_5 => ?_) (fun c_5 => ?_)
  · skip
    have hN := strV_neg hs c_5
    subst hN
    refine g_iload_n (q := 79) C dX3_giveTo_78 rfl rfl ?_
    exact g_iret C dX3_giveTo_79 (⟨rfl, hF1, hO1, ho1⟩) (Nat.zero_le _) (Nat.zero_le _)
  · skip
    have hlt := strV_pos hs c_5
    refine g_iconst (q := 9) (0) C dX3_giveTo_8 (by decide) rfl ?_
    refine g_istore4 (q := 11) C dX3_giveTo_9 (by first | rfl | exact hNw_rf _) rfl ?_
    refine h_loopU (P := fun h => ∀ (M2 : hM) (o5 : Option Value), hkF M2 hk (gvR oh many wet got V (s * 8 + h)).1 FS → M2 o = some (true, oOrder oh many wet (gvR oh many wet got V (s * 8 + h)).2.1) → hOff M M2 (fun a => onHk hk a ∨ a = o) → hG Γ k _ _ M2 0 0 11 [some (.ref r), some (.ref o), some (.int (gvR oh many wet got V (s * 8 + h)).2.2), some (.int (strV s)), some (.int (nI h)), o5] []) (N := 8) (fun h hh ih2 => ?_) 0 (Nat.zero_le _) M1 _ (by rw [Nat.add_zero]; exact hF1) (by rw [Nat.add_zero]; exact hO1) ho1
    intro M2 o5b hF2 hO2 ho2
    have hr2 : rkS Γ M2 r hk := ⟨hI, arr, hf, (ho2 _ (fun q => q.elim (hF.notOn h1 (fun fs q => by cases q)) (fun q => by rw [q, hO] at h1; cases h1))).trans h1, (ho2 _ (fun q => q.elim (hF.notOn h2 (fun fs q => by cases q)) (fun q => by rw [q, hO] at h2; cases h2))).trans h2, h3⟩
    refine g_iload (q := 13) C dX3_giveTo_11 rfl rfl ?_
    refine g_bipush (q := 15) (8) C dX3_giveTo_13 (by decide) rfl ?_
    refine g_icmp_ge (t := 72) (q := 18) C dX3_giveTo_15 (by decide) rfl (fun c_15 => ?_) (fun c_15 => ?_)
    · skip
      have hN2 := nI_ge_eq8 hh c_15
      subst hN2
      refine g_iinc3 (q := 75) (-1) C dX3_giveTo_72 (by decide) (by first | rfl | exact hNw_rf _) rfl ?_
      refine g_goto (t := 4) C dX3_giveTo_75 (by decide) ?_
      rw [strV_s hlt]
      have hgo := ih hlt M2 (some (.int (nI 8))) o5b
      rw [Nat.succ_mul] at hgo
      exact hgo hF2 hO2 ho2
    · skip
      have hlt2 := nI_nge_lt hh (by decide) c_15
      have hix : (4 - s) * 8 + h < 40 := by omega
      refine g_aload_n (q := 19) C dX3_giveTo_18 rfl (by first | exact hRef_r _ | exact hRef_o _ | exact hRef_n) rfl ?_
      refine g_iload_n (q := 20) C dX3_giveTo_19 rfl rfl ?_
      refine g_iload (q := 22) C dX3_giveTo_20 rfl rfl ?_
      refine g_callV2O (q := 25) C hy_X3_hookAt (c_X3_hookAt Γ l _ _ hr2) qw_294 (by exact (hr2.2.choose_spec.choose_spec).1) rfl ⟨Nat.le_of_ble_eq_true rfl, Nat.le_of_ble_eq_true rfl⟩ (Nat.le_of_ble_eq_true rfl) rfl dX3_giveTo_22 ⟨rfl, rfl⟩ ⟨Nat.zero_le _, Nat.zero_le _⟩ rfl ?_
      rw [strV_lt hlt, hkAtO_in (by omega) (by omega)]
      rw [← strV_lt hlt]
      show hG _ _ _ _ _ _ _ _ _ [.ref (hk ((4 - s) * 8 + h))]
      refine g_astore5 (q := 27) C dX3_giveTo_25 (by first | exact hRef_r _ | exact hRef_o _ | exact hRef_n) (by first | rfl | exact hNw_rf _) rfl ?_
      refine g_aload (q := 29) C dX3_giveTo_27 rfl (by first | exact hRef_r _ | exact hRef_o _ | exact hRef_n) rfl ?_
      refine g_ifnullR (q := 32) C dX3_giveTo_29 rfl ?_
      refine g_aload_n (q := 33) C dX3_giveTo_32 rfl (by first | exact hRef_r _ | exact hRef_o _ | exact hRef_n) rfl ?_
      refine g_callV0P (q := 36) C hy_X2_needsSome (c_X2_needsSome Γ l hO2) qw_295 (by exact hO2) rfl ⟨Nat.le_of_ble_eq_true rfl, Nat.le_of_ble_eq_true rfl⟩ (Nat.le_of_ble_eq_true rfl) rfl dX3_giveTo_33 ⟨rfl, rfl⟩ ⟨Nat.zero_le _, Nat.zero_le _⟩ rfl ?_
      refine g_ifB_eq (t := 66) (q := 39) C dX3_giveTo_36 (by decide) rfl (fun c_36 => ?_) (fun c_36 => ?_)
      · skip
        refine g_iinc4 (q := 69) (1) C dX3_giveTo_66 (by decide) (by first | rfl | exact hNw_rf _) rfl ?_
        refine g_goto (t := 11) C dX3_giveTo_69 (by decide) ?_
        rw [nI_1]
        have hst : gvR oh many wet got V (s * 8 + (h + 1)) = gvR oh many wet got V (s * 8 + h) := by
          show gvS oh many wet (s * 8 + h) (gvR oh many wet got V (s * 8 + h)) = _
          unfold gvS
          rw [ixT_at hlt2]
          refine if_neg (fun q => ?_)
          rw [c_36] at q
          cases q
        have hgo := ih2 hlt2 M2 (some (.ref (hk ((4 - s) * 8 + h))))
        rw [hst] at hgo
        exact hgo hF2 hO2 ho2
      · skip
        refine g_aload (q := 41) C dX3_giveTo_39 rfl (by first | exact hRef_r _ | exact hRef_o _ | exact hRef_n) rfl ?_
        refine g_aload_n (q := 42) C dX3_giveTo_41 rfl (by first | exact hRef_r _ | exact hRef_o _ | exact hRef_n) rfl ?_
        refine g_callV1P (q := 45) C hy_X1_fits (c_X1_fits Γ l (hF2 _ hix) hO2) qw_299 (by exact hF2 _ hix) rfl ⟨Nat.le_of_ble_eq_true rfl, Nat.le_of_ble_eq_true rfl⟩ (Nat.le_of_ble_eq_true rfl) rfl dX3_giveTo_42 ⟨rfl, rfl⟩ ⟨Nat.zero_le _, Nat.zero_le _⟩ rfl ?_
        refine g_ifB_eq (t := 66) (q := 48) C dX3_giveTo_45 (by decide) rfl (fun c_45 => ?_) (fun c_45 => ?_)
        · skip
          refine g_iinc4 (q := 69) (1) C dX3_giveTo_66 (by decide) (by first | rfl | exact hNw_rf _) rfl ?_
          refine g_goto (t := 11) C dX3_giveTo_69 (by decide) ?_
          rw [nI_1]
          have hst : gvR oh many wet got V (s * 8 + (h + 1)) = gvR oh many wet got V (s * 8 + h) := by
            show gvS oh many wet (s * 8 + h) (gvR oh many wet got V (s * 8 + h)) = _
            unfold gvS
            rw [ixT_at hlt2]
            refine if_neg (fun q => ?_)
            rw [c_36, show bFit _ oh wet = false from c_45] at q
            cases q
          have hgo := ih2 hlt2 M2 (some (.ref (hk ((4 - s) * 8 + h))))
          rw [hst] at hgo
          exact hgo hF2 hO2 ho2
        · skip
          refine g_aload (q := 50) C dX3_giveTo_48 rfl (by first | exact hRef_r _ | exact hRef_o _ | exact hRef_n) rfl ?_
          refine g_callV0V (q := 53) C hy_X1_clear (c_X1_clear Γ l (hF2 _ hix)) qw_311 (by exact hF2 _ hix) rfl ⟨Nat.le_of_ble_eq_true rfl, Nat.le_of_ble_eq_true rfl⟩ (Nat.le_of_ble_eq_true rfl) rfl dX3_giveTo_50 ⟨rfl, rfl⟩ ⟨Nat.zero_le _, Nat.zero_le _⟩ rfl (fun M_50 p_50 => ?_)
          subst p_50
          refine g_aload_n (q := 54) C dX3_giveTo_53 rfl (by first | exact hRef_r _ | exact hRef_o _ | exact hRef_n) rfl ?_
          refine g_dup (q := 55) C dX3_giveTo_54 rfl rfl ?_
          refine g_get (q := 58) C hcl_X2 3 (by decide) qw_561 rfl dX3_giveTo_55 (by first | exact hO2 | exact (hU_n (fun q => by rw [q, hF2 _ hix] at hO2; cases hO2)).trans hO2) rfl rfl ?_
          refine g_iconst (q := 59) (1) C dX3_giveTo_58 (by decide) rfl ?_
          refine g_iadd (q := 60) C dX3_giveTo_59 rfl ?_
          refine g_put (q := 63) C hcl_X2 3 (by decide) qw_561 rfl rfl rfl rfl dX3_giveTo_60 (by first | exact hO2 | exact (hU_n (fun q => by rw [q, hF2 _ hix] at hO2; cases hO2)).trans hO2) (Nat.le_of_ble_eq_true rfl) rfl ?_
          (try rw [hU_2])
          refine g_iinc2 (q := 66) (1) C dX3_giveTo_63 (by decide) (by first | rfl | exact hNw_rf _) rfl ?_
          refine g_iinc4 (q := 69) (1) C dX3_giveTo_66 (by decide) (by first | rfl | exact hNw_rf _) rfl ?_
          refine g_goto (t := 11) C dX3_giveTo_69 (by decide) ?_
          rw [nI_1]
          have hst : gvR oh many wet got V (s * 8 + (h + 1)) = (fUp (gvR oh many wet got V (s * 8 + h)).1 ((4 - s) * 8 + h) (none, 0, 0, 0, 0), (gvR oh many wet got V (s * 8 + h)).2.1 + 1, (gvR oh many wet got V (s * 8 + h)).2.2 + 1) := by
            show gvS oh many wet (s * 8 + h) (gvR oh many wet got V (s * 8 + h)) = _
            unfold gvS
            rw [ixT_at hlt2, if_pos (by rw [c_36]; exact c_45)]
          have e2 := congrArg (fun q => q.2.2) hst
          rw [← show (gvR oh many wet got V (s * 8 + (h + 1))).2.2 = (gvR oh many wet got V (s * 8 + h)).2.2 + 1 from e2]
          refine ih2 hlt2 _ _ ?_ ?_ ?_
          · rw [hst]
            exact ((hF2.put hI hix (none, 0, 0, 0, 0) (FS ((4 - s) * 8 + h))).congr (fun _ _ => rfl) (fun i hi => by rw [fUp_k])).off (S := fun a => a = o) (fun b hb => hU_n hb) (fun i hi q => by rw [← q, hF2 i hi] at hO2; cases hO2)
          · rw [hst]
            exact hU_s _ _ _
          · exact (ho2.put (Or.inl ⟨_, hix, rfl⟩)).put (Or.inr rfl)
