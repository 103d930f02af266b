set_option maxRecDepth 100000 in
set_option maxHeartbeats 4000000 in
theorem c_X4_fill (Γ : hGam) (l : Launch) {M : hM} {x : Nat} {S : hS} (hL0 : ltP Γ M x S) (hI : sInv S) : hMet Γ l yX4_fill cX4_fill 3 (some .int) rm_X4_fill [.ref x] M (hpI (fun a M1 => a = (sFill S).1 ∧ ltP Γ M1 x (sFill S).2 ∧ hKp noCls M M1)) := by
  obtain ⟨hl9, ol, rk, tr, edh, edo, hb, ob, hk, hk2, V, V2, g0, hL⟩ := hL0
  have hLc := hL
  obtain ⟨pL, pT, pH, pO, nHO, nED, pR, pR2, nHK, hRV⟩ := hLc
  obtain ⟨pRs, FS, pF⟩ := pR
  obtain ⟨pRs2, FS2, pF2⟩ := pR2
  refine hMet_of (by decide +kernel) (Nat.le_of_ble_eq_true rfl) (hCat_cons rfl hCat_nil) (fun k C => ?_)
  show hG _ _ _ _ _ _ _ _ [some (.ref x), none, none] _
  refine g_iconst (q := 1) (0) C dX4_fill_0 (by decide) rfl ?_
  refine g_istore1 (q := 2) C dX4_fill_1 (by first | rfl | exact hNw_rf _) rfl ?_
  refine g_iconst (q := 3) (0) C dX4_fill_2 (by decide) rfl ?_
  refine g_istore2 (q := 4) C dX4_fill_3 (by first | rfl | exact hNw_rf _) rfl ?_
  refine h_loopU (P := fun i => ∀ (M3 : hM) (V3 B3 : Nat → hB) (G3 : Nat → Int32) (gi : Int32), ltQ Γ M3 x (S.1, (sO S, sW S, sM S, sD S, G3), B3, S.2.2.2) hl9 ol rk tr edh edo hb ob hk hk2 V3 V2 g0 → hkF M3 hk V3 FS → (B3, G3, gi) = (flR (fun i => some (sW S i)) (sM S) (sD S) (sG S) (sB S) i) → (∀ k, k < 40 → ∀ j, (B3 k).1 = some j → j < sN S) → hKp noCls M M3 → hG Γ k _ _ M3 0 0 4 [some (.ref x), some (.int gi), some (.int (nI i))] []) (N := sO S) (fun i hi ih => ?_) 0 (Nat.zero_le _) M V (sB S) (sG S) 0 hL pF flR_0 hI.lt hKp.rf
  intro M3 V3 B3 G3 gi hL3 hF3 hb5 hB3 hK3
  have hO6 := hI.2.1
  refine g_iload_n (q := 5) C dX4_fill_4 rfl rfl ?_
  refine g_aload_n (q := 6) C dX4_fill_5 rfl (by first | exact hRef_r _ | exact hRef_o _ | exact hRef_n) rfl ?_
  refine g_get (q := 9) C hcl_X4 1 (by decide) qw_117 rfl dX4_fill_6 (by exact hL3.1) rfl rfl ?_
  refine g_callV0P (q := 12) C hy_Jx4a65c_size_8abf5 (c_Jx4a65c_size_8abf5 Γ l hL3.2.2.2.1.1) qw_271 (by exact hL3.2.2.2.1.1.choose_spec.choose_spec.choose_spec.choose_spec.1) rfl ⟨Nat.le_of_ble_eq_true rfl, Nat.le_of_ble_eq_true rfl⟩ (Nat.le_of_ble_eq_true rfl) rfl dX4_fill_9 ⟨rfl, rfl⟩ ⟨Nat.zero_le _, Nat.zero_le _⟩ rfl ?_
  refine g_icmp_ge (t := 42) (q := 15) C dX4_fill_12 (by decide) rfl (fun c_12 => ?_) (fun c_12 => ?_)
  · skip
    have hN := nI_ge_eq hi (by omega) c_12
    subst hN
    refine g_iload_n (q := 43) C dX4_fill_42 rfl rfl ?_
    exact g_iret C dX4_fill_43 (by unfold sFill; rw [← hb5]; exact ⟨rfl, hL3.P, hK3⟩) (Nat.zero_le _) (Nat.zero_le _)
  · skip
    have hlt := nI_nge_lt hi (by omega) c_12
    refine g_iload_n (q := 16) C dX4_fill_15 rfl rfl ?_
    refine g_aload_n (q := 17) C dX4_fill_16 rfl (by first | exact hRef_r _ | exact hRef_o _ | exact hRef_n) rfl ?_
    refine g_get (q := 20) C hcl_X4 2 (by decide) qw_118 rfl dX4_fill_17 (by exact hL3.1) rfl rfl ?_
    refine g_aload_n (q := 21) C dX4_fill_20 rfl (by first | exact hRef_r _ | exact hRef_o _ | exact hRef_n) rfl ?_
    refine g_get (q := 24) C hcl_X4 1 (by decide) qw_117 rfl dX4_fill_21 (by exact hL3.1) rfl rfl ?_
    refine g_iload_n (q := 25) C dX4_fill_24 rfl rfl ?_
    refine g_callV1O (q := 28) C hy_Jx4a65c_get_915e3 (c_Jx4a65c_get_915e3 Γ l i hL3.2.2.2.1.1 hlt) qw_275 (by exact hL3.2.2.2.1.1.choose_spec.choose_spec.choose_spec.choose_spec.1) rfl ⟨Nat.le_of_ble_eq_true rfl, Nat.le_of_ble_eq_true rfl⟩ (Nat.le_of_ble_eq_true rfl) rfl dX4_fill_25 ⟨rfl, rfl⟩ ⟨Nat.zero_le _, Nat.zero_le _⟩ rfl ?_
    refine g_cast (q := 31) C qw_289 rfl (hL3.2.2.2.1.2.1 i hlt) dX4_fill_28 rfl ?_
    refine g_callV1I (q := 34) C hy_X3_giveTo (c_X3_giveTo Γ l hL3.2.2.2.2.2.2.1.1 hF3 (hL3.2.2.2.1.2.1 i hlt)) qw_290 (by exact hL3.2.2.2.2.2.2.1.1.2.choose_spec.choose_spec.1) rfl ⟨Nat.le_of_ble_eq_true rfl, Nat.le_of_ble_eq_true rfl⟩ (Nat.le_of_ble_eq_true rfl) rfl dX4_fill_31 ⟨rfl, rfl⟩ ⟨Nat.zero_le _, Nat.zero_le _⟩ rfl (fun x_31 M_31 p_31 => ?_)
    obtain ⟨z1, z2, z3, z4⟩ := p_31
    obtain ⟨gv1, gv2⟩ := RelV.gv hL3.2.2.2.2.2.2.2.2.2 pH.2.2 hB3 (hI.2.2.2.1 i hlt) (sM S i) (sD S i) (G3 i) 40 (Nat.le_refl 40)
    have z1b : x_31 = (gvR (some (sW S i)) (sM S i) (sD S i) (G3 i) B3 40).2.2 := z1.trans (congrArg Prod.snd gv2)
    have z3b : M_31 (ob i) = some (true, oOrder (some (hb (sW S i))) (sM S i) (sD S i) (gvR (some (sW S i)) (sM S i) (sD S i) (G3 i) B3 40).2.1) := by rw [← gv2]; exact z3
    obtain ⟨hL4, hK4⟩ := hL3.give hlt hF3 z2 z3b z4 gv1
    refine g_iadd (q := 35) C dX4_fill_34 rfl ?_
    refine g_istore1 (q := 36) C dX4_fill_35 (by first | rfl | exact hNw_rf _) rfl ?_
    refine g_iinc2 (q := 39) (1) C dX4_fill_36 (by decide) (by first | rfl | exact hNw_rf _) rfl ?_
    refine g_goto (t := 4) C dX4_fill_39 (by decide) ?_
    rw [nI_1, z1b]
    exact ih hlt _ _ _ _ _ hL4 z2 (flR_s hb5).symm (fun k hk9 j hj => gvR_1 hB3 40 k hk9 j hj) (hK3.tr hK4)
