abbrev rn_X4_told : Room := { frames := 6, cells := 0, slots := 0, locals := 90 }
abbrev rn_X4_about : Room := { frames := 6, cells := 0, slots := 0, locals := 90 }
abbrev rn_X4_asked : Room := { frames := 6, cells := 0, slots := 0, locals := 90 }
abbrev rn_X4_count : Room := { frames := 6, cells := 0, slots := 0, locals := 90 }
set_option maxRecDepth 100000 in
set_option maxHeartbeats 4000000 in
theorem c_X4_told_n (Γ : hGam) (l : Launch) {M : hM} {x : Nat} {S : hS} (p q w : Int32) (hL0 : ltP Γ M x S) (hI : sInv S) (hv : (sTold S p q w).1 = 0) : hMet Γ l yX4_told cX4_told 5 (some .int) rn_X4_told [.ref x, .int p, .int q, .int w] M (hpP M (sTold S p q w).2) := by
  obtain ⟨hl9, ol, rk, tr, edh, edo, hb, ob, hk, hk2, V, V2, g0, hL⟩ := hL0
  have hLc := hL
  obtain ⟨pL, pT, pH, pO, nHO, nED, pR, pR2, nHK, hRV⟩ := hLc
  obtain ⟨pRs, FS, pF⟩ := pR
  obtain ⟨pRs2, FS2, pF2⟩ := pR2
  refine hMet_of (by decide +kernel) (Nat.le_of_ble_eq_true rfl) (hCat_cons rfl (hCat_cons rfl (hCat_cons rfl (hCat_cons rfl hCat_nil)))) (fun k C => ?_)
  show hG _ _ _ _ _ _ _ _ [some (.ref x), some (.int p), some (.int q), some (.int w), none] _
  refine g_aload_n (q := 1) C dX4_told_0 rfl (by first | exact hRef_r _ | exact hRef_o _ | exact hRef_n) rfl ?_
  refine g_get (q := 4) C hcl_X4 2 (by decide) qw_118 rfl dX4_told_1 (by exact pL) rfl rfl ?_
  refine g_iload_n (q := 5) C dX4_told_4 rfl rfl ?_
  refine g_iload_n (q := 6) C dX4_told_5 rfl rfl ?_
  refine g_callV2O (q := 9) C hy_X3_hookAt (c_X3_hookAt Γ l p q pRs) qw_139 (by exact pRs.2.choose_spec.choose_spec.1) rfl ⟨Nat.le_of_ble_eq_true rfl, Nat.le_of_ble_eq_true rfl⟩ (Nat.le_of_ble_eq_true rfl) rfl dX4_told_6 ⟨rfl, rfl⟩ ⟨Nat.zero_le _, Nat.zero_le _⟩ rfl ?_
  refine g_astore4 (q := 11) C dX4_told_9 (by first | exact hRef_r _ | exact hRef_o _ | exact hRef_n) (by first | rfl | exact hNw_rf _) rfl ?_
  refine g_aload (q := 13) C dX4_told_11 rfl (by first | exact hRef_r _ | exact hRef_o _ | exact hRef_n) rfl ?_
  refine g_ifnonnull (t := 26) (q := 16) C dX4_told_13 (by decide) rfl (fun y_13 e_13 => ?_) (fun e_13 => ?_)
  · skip
    obtain ⟨f_13, q_13⟩ := hkAtO_s e_13
    subst q_13
    have hi := isHk_lt f_13
    rw [e_13]
    refine g_iload_n (q := 27) C dX4_told_26 rfl rfl ?_
    refine g_iconst (q := 28) (0) C dX4_told_27 (by decide) rfl ?_
    refine g_bipush (q := 30) (7) C dX4_told_28 (by decide) rfl ?_
    refine g_callS3P (q := 33) C hy_X4_isWithin (c_X4_isWithin Γ l w 0 7) qw_256 ⟨Nat.le_of_ble_eq_true rfl, Nat.le_of_ble_eq_true rfl⟩ (Nat.le_of_ble_eq_true rfl) rfl dX4_told_30 ⟨rfl, rfl⟩ ⟨Nat.zero_le _, Nat.zero_le _⟩ rfl ?_
    refine g_ifB_ne (t := 46) (q := 36) C dX4_told_33 (by decide) rfl (fun c_33 => ?_) (fun c_33 => ?_)
    · skip
      have f_33 : inR 0 7 w = true := c_33
      refine g_aload (q := 48) C dX4_told_46 rfl (by first | exact hRef_r _ | exact hRef_o _ | exact hRef_n) rfl ?_
      refine g_iload_n (q := 49) C dX4_told_48 rfl rfl ?_
      refine g_callV1P (q := 52) C hy_X1_tells (c_X1_tells Γ l w (pF _ hi) (pF.bef hi) (pF.aft hi) (hL.num hI hi)) qw_376 (by exact pF _ hi) rfl ⟨Nat.le_of_ble_eq_true rfl, Nat.le_of_ble_eq_true rfl⟩ (Nat.le_of_ble_eq_true rfl) rfl dX4_told_49 ⟨rfl, rfl⟩ ⟨Nat.zero_le _, Nat.zero_le _⟩ rfl ?_
      exact g_iret C dX4_told_52 (by have e_ : sTold S p q w = (0, tellI (sB S) (ixOf p q) w) := (by simp [sTold, f_13, f_33]); rw [e_]; exact ⟨RelV.tele hRV hi w, rfl⟩) (Nat.zero_le _) (Nat.zero_le _)
    · skip
      have f_33 : inR 0 7 w = false := c_33
      exact absurd hv (by simp [sTold, f_13, f_33])
  · skip
    have f_13 := hkAtO_n e_13
    exact absurd hv (by simp [sTold, f_13])
set_option maxRecDepth 100000 in
set_option maxHeartbeats 4000000 in
theorem c_X4_about (Γ : hGam) (l : Launch) {M : hM} {x : Nat} {S : hS} (h w : Int32) (hl : l.stackTraces = false) (hL0 : ltP Γ M x S) (hI : sInv S) : hMetX Γ l yX4_about cX4_about 4 (some .int) rm_X4_about [.ref x, .int h, .int w] M (hpI (fun a M1 => (sAbout S h w).1 = 0 ∧ a = (sAbout S h w).2 ∧ M1 = M)) (thrN [eIOB] (sAbout S h w).1) := by
  obtain ⟨hl9, ol, rk, tr, edh, edo, hb, ob, hk, hk2, V, V2, g0, hL⟩ := hL0
  have hLc := hL
  obtain ⟨pL, pT, pH, pO, nHO, nED, pR, pR2, nHK, hRV⟩ := hLc
  obtain ⟨pRs, FS, pF⟩ := pR
  obtain ⟨pRs2, FS2, pF2⟩ := pR2
  refine hMetX_of (by decide +kernel) (Nat.le_of_ble_eq_true rfl) (hCat_cons rfl (hCat_cons rfl (hCat_cons rfl hCat_nil))) (fun k C hno => ?_)
  show hG _ _ _ _ _ _ _ _ [some (.ref x), some (.int h), some (.int w), none] _
  refine g_aload_n (q := 1) C dX4_about_0 rfl (by first | exact hRef_r _ | exact hRef_o _ | exact hRef_n) rfl ?_
  refine g_iload_n (q := 2) C dX4_about_1 rfl rfl ?_
  refine g_callV1O (q := 5) C hy_X4_herbNumbered (c_X4_herbNumbered Γ l h pL pH hI.1) qw_385 (by exact pL) rfl ⟨Nat.le_of_ble_eq_true rfl, Nat.le_of_ble_eq_true rfl⟩ (Nat.le_of_ble_eq_true rfl) rfl dX4_about_2 ⟨rfl, rfl⟩ ⟨Nat.zero_le _, Nat.zero_le _⟩ rfl ?_
  refine g_astore3 (q := 6) C dX4_about_5 (by first | exact hRef_r _ | exact hRef_o _ | exact hRef_n) (by first | rfl | exact hNw_rf _) rfl ?_
  refine g_aload_n (q := 7) C dX4_about_6 rfl (by first | exact hRef_r _ | exact hRef_o _ | exact hRef_n) rfl ?_
  refine g_ifnonnull (t := 20) (q := 10) C dX4_about_7 (by decide) rfl (fun y_7 e_7 => ?_) (fun e_7 => ?_)
  · skip
    obtain ⟨f_7, q_7⟩ := hbO_s e_7
    subst q_7
    have hj := (isH_ex f_7).1
    rw [e_7]
    refine g_iload_n (q := 21) C dX4_about_20 rfl rfl ?_
    by_cases s_0 : w = 0
    · skip
      have f_21 : inR 0 4 w = true := by rw [s_0]; decide
      refine g_tswI (t := 56) 0 C dX4_about_21 (by rw [s_0]; rfl) (by decide) (by decide) rfl (by decide) ?_
      refine g_aload_n (q := 57) C dX4_about_56 rfl (by first | exact hRef_r _ | exact hRef_o _ | exact hRef_n) rfl ?_
      refine g_get (q := 60) C hcl_X0 1 (by decide) qw_675 rfl dX4_about_57 (by exact pH.2.1 _ hj) rfl rfl ?_
      exact g_x (g_iret C dX4_about_60 (by have e_ : sAbout S h w = (0, abI S (hNo h) w) := (by simp [sAbout, f_7, f_21]); rw [e_]; exact ⟨rfl, (by rw [s_0, abI_0]), rfl⟩) (Nat.zero_le _) (Nat.zero_le _))
    by_cases s_1 : w = 1
    · skip
      have f_21 : inR 0 4 w = true := by rw [s_1]; decide
      refine g_tswI (t := 61) 1 C dX4_about_21 (by rw [s_1]; rfl) (by decide) (by decide) rfl (by decide) ?_
      refine g_aload_n (q := 62) C dX4_about_61 rfl (by first | exact hRef_r _ | exact hRef_o _ | exact hRef_n) rfl ?_
      refine g_get (q := 65) C hcl_X0 2 (by decide) qw_678 rfl dX4_about_62 (by exact pH.2.1 _ hj) rfl rfl ?_
      exact g_x (g_iret C dX4_about_65 (by have e_ : sAbout S h w = (0, abI S (hNo h) w) := (by simp [sAbout, f_7, f_21]); rw [e_]; exact ⟨rfl, (by rw [s_1, abI_1]), rfl⟩) (Nat.zero_le _) (Nat.zero_le _))
    by_cases s_2 : w = 2
    · skip
      have f_21 : inR 0 4 w = true := by rw [s_2]; decide
      refine g_tswI (t := 66) 2 C dX4_about_21 (by rw [s_2]; rfl) (by decide) (by decide) rfl (by decide) ?_
      refine g_aload_n (q := 67) C dX4_about_66 rfl (by first | exact hRef_r _ | exact hRef_o _ | exact hRef_n) rfl ?_
      refine g_get (q := 70) C hcl_X4 2 (by decide) qw_118 rfl dX4_about_67 (by exact pL) rfl rfl ?_
      refine g_aload_n (q := 71) C dX4_about_70 rfl (by first | exact hRef_r _ | exact hRef_o _ | exact hRef_n) rfl ?_
      refine g_callV1P (q := 74) C hy_X3_bundlesOf (c_X3_bundlesOf Γ l (hb (hNo h)) pRs pF) qw_391 (by exact pRs.2.choose_spec.choose_spec.1) rfl ⟨Nat.le_of_ble_eq_true rfl, Nat.le_of_ble_eq_true rfl⟩ (Nat.le_of_ble_eq_true rfl) rfl dX4_about_71 ⟨rfl, rfl⟩ ⟨Nat.zero_le _, Nat.zero_le _⟩ rfl ?_
      exact g_x (g_iret C dX4_about_74 (by have e_ : sAbout S h w = (0, abI S (hNo h) w) := (by simp [sAbout, f_7, f_21]); rw [e_]; exact ⟨rfl, (by rw [s_2, abI_2]; exact RelV.cntO hRV pH.2.2 hI.lt hj), rfl⟩) (Nat.zero_le _) (Nat.zero_le _))
    by_cases s_3 : w = 3
    · skip
      have f_21 : inR 0 4 w = true := by rw [s_3]; decide
      refine g_tswI (t := 75) 3 C dX4_about_21 (by rw [s_3]; rfl) (by decide) (by decide) rfl (by decide) ?_
      refine g_aload_n (q := 76) C dX4_about_75 rfl (by first | exact hRef_r _ | exact hRef_o _ | exact hRef_n) rfl ?_
      refine g_get (q := 79) C hcl_X4 2 (by decide) qw_118 rfl dX4_about_76 (by exact pL) rfl rfl ?_
      refine g_aload_n (q := 80) C dX4_about_79 rfl (by first | exact hRef_r _ | exact hRef_o _ | exact hRef_n) rfl ?_
      refine g_callV1P (q := 83) C hy_X3_mouldyBundlesOf (c_X3_mouldyBundlesOf Γ l (hb (hNo h)) pRs pF) qw_396 (by exact pRs.2.choose_spec.choose_spec.1) rfl ⟨Nat.le_of_ble_eq_true rfl, Nat.le_of_ble_eq_true rfl⟩ (Nat.le_of_ble_eq_true rfl) rfl dX4_about_80 ⟨rfl, rfl⟩ ⟨Nat.zero_le _, Nat.zero_le _⟩ rfl ?_
      exact g_x (g_iret C dX4_about_83 (by have e_ : sAbout S h w = (0, abI S (hNo h) w) := (by simp [sAbout, f_7, f_21]); rw [e_]; exact ⟨rfl, (by rw [s_3, abI_3]; exact RelV.badO hRV pH.2.2 hI.lt hj), rfl⟩) (Nat.zero_le _) (Nat.zero_le _))
    by_cases s_4 : w = 4
    · skip
      have f_21 : inR 0 4 w = true := by rw [s_4]; decide
      refine g_tswI (t := 84) 4 C dX4_about_21 (by rw [s_4]; rfl) (by decide) (by decide) rfl (by decide) ?_
      refine g_aload_n (q := 85) C dX4_about_84 rfl (by first | exact hRef_r _ | exact hRef_o _ | exact hRef_n) rfl ?_
      refine g_get (q := 88) C hcl_X4 2 (by decide) qw_118 rfl dX4_about_85 (by exact pL) rfl rfl ?_
      refine g_aload_n (q := 89) C dX4_about_88 rfl (by first | exact hRef_r _ | exact hRef_o _ | exact hRef_n) rfl ?_
      refine g_callV1P (q := 92) C hy_X3_leastCleanWetnessOf (c_X3_leastCleanWetnessOf Γ l (hb (hNo h)) pRs pF) qw_400 (by exact pRs.2.choose_spec.choose_spec.1) rfl ⟨Nat.le_of_ble_eq_true rfl, Nat.le_of_ble_eq_true rfl⟩ (Nat.le_of_ble_eq_true rfl) rfl dX4_about_89 ⟨rfl, rfl⟩ ⟨Nat.zero_le _, Nat.zero_le _⟩ rfl ?_
      exact g_x (g_iret C dX4_about_92 (by have e_ : sAbout S h w = (0, abI S (hNo h) w) := (by simp [sAbout, f_7, f_21]); rw [e_]; exact ⟨rfl, (by rw [s_4, abI_4]; exact RelV.lst hRV pH.2.2 hI.lt hj), rfl⟩) (Nat.zero_le _) (Nat.zero_le _))
    refine g_tswO (t := 93) C dX4_about_21 (by have n_0 := hNeI s_0 (m := 0) rfl; have n_1 := hNeI s_1 (m := 1) rfl; have n_2 := hNeI s_2 (m := 2) rfl; have n_3 := hNeI s_3 (m := 3) rfl; have n_4 := hNeI s_4 (m := 4) rfl; omega) (by decide) ?_
    have f_21 := inR_no4 s_0 s_1 s_2 s_3 s_4
    exact g_throwS C hl hno hThr_IOB hs_176 ⟨0, by simp [sAbout, f_7, f_21], rfl⟩ rfl dX4_about_93 dX4_about_96 dX4_about_97 dX4_about_99 dX4_about_102 (by decide) (by decide) (by decide) (by decide) (by decide) (by decide)
  · skip
    have f_7 := hbO_n e_7
    exact g_throwS C hl hno hThr_IOB hs_80 ⟨0, by simp [sAbout, f_7], rfl⟩ rfl dX4_about_10 dX4_about_13 dX4_about_14 dX4_about_16 dX4_about_19 (by decide) (by decide) (by decide) (by decide) (by decide) (by decide)
set_option maxRecDepth 100000 in
set_option maxHeartbeats 4000000 in
theorem c_X4_about_n (Γ : hGam) (l : Launch) {M : hM} {x : Nat} {S : hS} (h w : Int32) (hL0 : ltP Γ M x S) (hI : sInv S) (hv : (sAbout S h w).1 = 0) : hMet Γ l yX4_about cX4_about 4 (some .int) rn_X4_about [.ref x, .int h, .int w] M (hpP M (sAbout S h w).2) := by
  obtain ⟨hl9, ol, rk, tr, edh, edo, hb, ob, hk, hk2, V, V2, g0, hL⟩ := hL0
  have hLc := hL
  obtain ⟨pL, pT, pH, pO, nHO, nED, pR, pR2, nHK, hRV⟩ := hLc
  obtain ⟨pRs, FS, pF⟩ := pR
  obtain ⟨pRs2, FS2, pF2⟩ := pR2
  refine hMet_of (by decide +kernel) (Nat.le_of_ble_eq_true rfl) (hCat_cons rfl (hCat_cons rfl (hCat_cons rfl hCat_nil))) (fun k C => ?_)
  show hG _ _ _ _ _ _ _ _ [some (.ref x), some (.int h), some (.int w), none] _
  refine g_aload_n (q := 1) C dX4_about_0 rfl (by first | exact hRef_r _ | exact hRef_o _ | exact hRef_n) rfl ?_
  refine g_iload_n (q := 2) C dX4_about_1 rfl rfl ?_
  refine g_callV1O (q := 5) C hy_X4_herbNumbered (c_X4_herbNumbered Γ l h pL pH hI.1) qw_385 (by exact pL) rfl ⟨Nat.le_of_ble_eq_true rfl, Nat.le_of_ble_eq_true rfl⟩ (Nat.le_of_ble_eq_true rfl) rfl dX4_about_2 ⟨rfl, rfl⟩ ⟨Nat.zero_le _, Nat.zero_le _⟩ rfl ?_
  refine g_astore3 (q := 6) C dX4_about_5 (by first | exact hRef_r _ | exact hRef_o _ | exact hRef_n) (by first | rfl | exact hNw_rf _) rfl ?_
  refine g_aload_n (q := 7) C dX4_about_6 rfl (by first | exact hRef_r _ | exact hRef_o _ | exact hRef_n) rfl ?_
  refine g_ifnonnull (t := 20) (q := 10) C dX4_about_7 (by decide) rfl (fun y_7 e_7 => ?_) (fun e_7 => ?_)
  · skip
    obtain ⟨f_7, q_7⟩ := hbO_s e_7
    subst q_7
    have hj := (isH_ex f_7).1
    rw [e_7]
    refine g_iload_n (q := 21) C dX4_about_20 rfl rfl ?_
    by_cases s_0 : w = 0
    · skip
      have f_21 : inR 0 4 w = true := by rw [s_0]; decide
      refine g_tswI (t := 56) 0 C dX4_about_21 (by rw [s_0]; rfl) (by decide) (by decide) rfl (by decide) ?_
      refine g_aload_n (q := 57) C dX4_about_56 rfl (by first | exact hRef_r _ | exact hRef_o _ | exact hRef_n) rfl ?_
      refine g_get (q := 60) C hcl_X0 1 (by decide) qw_675 rfl dX4_about_57 (by exact pH.2.1 _ hj) rfl rfl ?_
      exact g_iret C dX4_about_60 (by have e_ : sAbout S h w = (0, abI S (hNo h) w) := (by simp [sAbout, f_7, f_21]); rw [e_]; exact ⟨(by rw [s_0, abI_0]), rfl⟩) (Nat.zero_le _) (Nat.zero_le _)
    by_cases s_1 : w = 1
    · skip
      have f_21 : inR 0 4 w = true := by rw [s_1]; decide
      refine g_tswI (t := 61) 1 C dX4_about_21 (by rw [s_1]; rfl) (by decide) (by decide) rfl (by decide) ?_
      refine g_aload_n (q := 62) C dX4_about_61 rfl (by first | exact hRef_r _ | exact hRef_o _ | exact hRef_n) rfl ?_
      refine g_get (q := 65) C hcl_X0 2 (by decide) qw_678 rfl dX4_about_62 (by exact pH.2.1 _ hj) rfl rfl ?_
      exact g_iret C dX4_about_65 (by have e_ : sAbout S h w = (0, abI S (hNo h) w) := (by simp [sAbout, f_7, f_21]); rw [e_]; exact ⟨(by rw [s_1, abI_1]), rfl⟩) (Nat.zero_le _) (Nat.zero_le _)
    by_cases s_2 : w = 2
    · skip
      have f_21 : inR 0 4 w = true := by rw [s_2]; decide
      refine g_tswI (t := 66) 2 C dX4_about_21 (by rw [s_2]; rfl) (by decide) (by decide) rfl (by decide) ?_
      refine g_aload_n (q := 67) C dX4_about_66 rfl (by first | exact hRef_r _ | exact hRef_o _ | exact hRef_n) rfl ?_
      refine g_get (q := 70) C hcl_X4 2 (by decide) qw_118 rfl dX4_about_67 (by exact pL) rfl rfl ?_
      refine g_aload_n (q := 71) C dX4_about_70 rfl (by first | exact hRef_r _ | exact hRef_o _ | exact hRef_n) rfl ?_
      refine g_callV1P (q := 74) C hy_X3_bundlesOf (c_X3_bundlesOf Γ l (hb (hNo h)) pRs pF) qw_391 (by exact pRs.2.choose_spec.choose_spec.1) rfl ⟨Nat.le_of_ble_eq_true rfl, Nat.le_of_ble_eq_true rfl⟩ (Nat.le_of_ble_eq_true rfl) rfl dX4_about_71 ⟨rfl, rfl⟩ ⟨Nat.zero_le _, Nat.zero_le _⟩ rfl ?_
      exact g_iret C dX4_about_74 (by have e_ : sAbout S h w = (0, abI S (hNo h) w) := (by simp [sAbout, f_7, f_21]); rw [e_]; exact ⟨(by rw [s_2, abI_2]; exact RelV.cntO hRV pH.2.2 hI.lt hj), rfl⟩) (Nat.zero_le _) (Nat.zero_le _)
    by_cases s_3 : w = 3
    · skip
      have f_21 : inR 0 4 w = true := by rw [s_3]; decide
      refine g_tswI (t := 75) 3 C dX4_about_21 (by rw [s_3]; rfl) (by decide) (by decide) rfl (by decide) ?_
      refine g_aload_n (q := 76) C dX4_about_75 rfl (by first | exact hRef_r _ | exact hRef_o _ | exact hRef_n) rfl ?_
      refine g_get (q := 79) C hcl_X4 2 (by decide) qw_118 rfl dX4_about_76 (by exact pL) rfl rfl ?_
      refine g_aload_n (q := 80) C dX4_about_79 rfl (by first | exact hRef_r _ | exact hRef_o _ | exact hRef_n) rfl ?_
      refine g_callV1P (q := 83) C hy_X3_mouldyBundlesOf (c_X3_mouldyBundlesOf Γ l (hb (hNo h)) pRs pF) qw_396 (by exact pRs.2.choose_spec.choose_spec.1) rfl ⟨Nat.le_of_ble_eq_true rfl, Nat.le_of_ble_eq_true rfl⟩ (Nat.le_of_ble_eq_true rfl) rfl dX4_about_80 ⟨rfl, rfl⟩ ⟨Nat.zero_le _, Nat.zero_le _⟩ rfl ?_
      exact g_iret C dX4_about_83 (by have e_ : sAbout S h w = (0, abI S (hNo h) w) := (by simp [sAbout, f_7, f_21]); rw [e_]; exact ⟨(by rw [s_3, abI_3]; exact RelV.badO hRV pH.2.2 hI.lt hj), rfl⟩) (Nat.zero_le _) (Nat.zero_le _)
    by_cases s_4 : w = 4
    · skip
      have f_21 : inR 0 4 w = true := by rw [s_4]; decide
      refine g_tswI (t := 84) 4 C dX4_about_21 (by rw [s_4]; rfl) (by decide) (by decide) rfl (by decide) ?_
      refine g_aload_n (q := 85) C dX4_about_84 rfl (by first | exact hRef_r _ | exact hRef_o _ | exact hRef_n) rfl ?_
      refine g_get (q := 88) C hcl_X4 2 (by decide) qw_118 rfl dX4_about_85 (by exact pL) rfl rfl ?_
      refine g_aload_n (q := 89) C dX4_about_88 rfl (by first | exact hRef_r _ | exact hRef_o _ | exact hRef_n) rfl ?_
      refine g_callV1P (q := 92) C hy_X3_leastCleanWetnessOf (c_X3_leastCleanWetnessOf Γ l (hb (hNo h)) pRs pF) qw_400 (by exact pRs.2.choose_spec.choose_spec.1) rfl ⟨Nat.le_of_ble_eq_true rfl, Nat.le_of_ble_eq_true rfl⟩ (Nat.le_of_ble_eq_true rfl) rfl dX4_about_89 ⟨rfl, rfl⟩ ⟨Nat.zero_le _, Nat.zero_le _⟩ rfl ?_
      exact g_iret C dX4_about_92 (by have e_ : sAbout S h w = (0, abI S (hNo h) w) := (by simp [sAbout, f_7, f_21]); rw [e_]; exact ⟨(by rw [s_4, abI_4]; exact RelV.lst hRV pH.2.2 hI.lt hj), rfl⟩) (Nat.zero_le _) (Nat.zero_le _)
    refine g_tswO (t := 93) C dX4_about_21 (by have n_0 := hNeI s_0 (m := 0) rfl; have n_1 := hNeI s_1 (m := 1) rfl; have n_2 := hNeI s_2 (m := 2) rfl; have n_3 := hNeI s_3 (m := 3) rfl; have n_4 := hNeI s_4 (m := 4) rfl; omega) (by decide) ?_
    have f_21 := inR_no4 s_0 s_1 s_2 s_3 s_4
    exact absurd hv (by simp [sAbout, f_7, f_21])
  · skip
    have f_7 := hbO_n e_7
    exact absurd hv (by simp [sAbout, f_7])
set_option maxRecDepth 100000 in
set_option maxHeartbeats 4000000 in
theorem c_X4_asked (Γ : hGam) (l : Launch) {M : hM} {x : Nat} {S : hS} (o w : Int32) (hl : l.stackTraces = false) (hL0 : ltP Γ M x S) (hI : sInv S) : hMetX Γ l yX4_asked cX4_asked 4 (some .int) rm_X4_asked [.ref x, .int o, .int w] M (hpI (fun a M1 => (sAsked S o w).1 = 0 ∧ a = (sAsked S o w).2 ∧ M1 = M)) (thrN [eIOB] (sAsked S o w).1) := by
  obtain ⟨hl9, ol, rk, tr, edh, edo, hb, ob, hk, hk2, V, V2, g0, hL⟩ := hL0
  have hLc := hL
  obtain ⟨pL, pT, pH, pO, nHO, nED, pR, pR2, nHK, hRV⟩ := hLc
  obtain ⟨pRs, FS, pF⟩ := pR
  obtain ⟨pRs2, FS2, pF2⟩ := pR2
  refine hMetX_of (by decide +kernel) (Nat.le_of_ble_eq_true rfl) (hCat_cons rfl (hCat_cons rfl (hCat_cons rfl hCat_nil))) (fun k C hno => ?_)
  show hG _ _ _ _ _ _ _ _ [some (.ref x), some (.int o), some (.int w), none] _
  refine g_iload_n (q := 1) C dX4_asked_0 rfl rfl ?_
  refine g_if_lt (t := 15) (q := 4) C dX4_asked_1 (by decide) rfl (fun c_1 => ?_) (fun c_1 => ?_)
  · skip
    have f_1 : (decide (0 ≤ o) && decide (o < nI (sO S))) = false := by simp [Int32.not_le.mpr c_1]
    exact g_throwS C hl hno hThr_IOB hs_178 ⟨0, by simp [sAsked, f_1], rfl⟩ rfl dX4_asked_15 dX4_asked_18 dX4_asked_19 dX4_asked_21 dX4_asked_24 (by decide) (by decide) (by decide) (by decide) (by decide) (by decide)
  · skip
    obtain ⟨oj, hj31, rfl⟩ := nI_of c_1
    have f_1 := hj31
    refine g_iload_n (q := 5) C dX4_asked_4 rfl rfl ?_
    refine g_aload_n (q := 6) C dX4_asked_5 rfl (by first | exact hRef_r _ | exact hRef_o _ | exact hRef_n) rfl ?_
    refine g_get (q := 9) C hcl_X4 1 (by decide) qw_117 rfl dX4_asked_6 (by exact pL) rfl rfl ?_
    refine g_callV0P (q := 12) C hy_Jx4a65c_size_8abf5 (c_Jx4a65c_size_8abf5 Γ l pO.1) qw_271 (by exact pO.1.choose_spec.choose_spec.choose_spec.choose_spec.1) rfl ⟨Nat.le_of_ble_eq_true rfl, Nat.le_of_ble_eq_true rfl⟩ (Nat.le_of_ble_eq_true rfl) rfl dX4_asked_9 ⟨rfl, rfl⟩ ⟨Nat.zero_le _, Nat.zero_le _⟩ rfl ?_
    refine g_icmp_lt (t := 25) (q := 15) C dX4_asked_12 (by decide) rfl (fun c_12 => ?_) (fun c_12 => ?_)
    · skip
      have f_12 : (decide (0 ≤ nI oj) && decide (nI oj < nI (sO S))) = true := by simp [c_12, nI_pos' hj31]
      have hO6 := hI.2.1
      have hjn : oj < sO S := (nI_ltI hj31 (by omega)).mp c_12
      refine g_aload_n (q := 26) C dX4_asked_25 rfl (by first | exact hRef_r _ | exact hRef_o _ | exact hRef_n) rfl ?_
      refine g_get (q := 29) C hcl_X4 1 (by decide) qw_117 rfl dX4_asked_26 (by exact pL) rfl rfl ?_
      refine g_iload_n (q := 30) C dX4_asked_29 rfl rfl ?_
      refine g_callV1O (q := 33) C hy_Jx4a65c_get_915e3 (c_Jx4a65c_get_915e3 Γ l oj pO.1 hjn) qw_275 (by exact pO.1.choose_spec.choose_spec.choose_spec.choose_spec.1) rfl ⟨Nat.le_of_ble_eq_true rfl, Nat.le_of_ble_eq_true rfl⟩ (Nat.le_of_ble_eq_true rfl) rfl dX4_asked_30 ⟨rfl, rfl⟩ ⟨Nat.zero_le _, Nat.zero_le _⟩ rfl ?_
      refine g_cast (q := 36) C qw_289 rfl (pO.2.1 oj hjn) dX4_asked_33 rfl ?_
      refine g_astore3 (q := 37) C dX4_asked_36 (by first | exact hRef_r _ | exact hRef_o _ | exact hRef_n) (by first | rfl | exact hNw_rf _) rfl ?_
      refine g_iload_n (q := 38) C dX4_asked_37 rfl rfl ?_
      by_cases s_0 : w = 0
      · skip
        have f_38 : inR 0 4 w = true := by rw [s_0]; decide
        refine g_tswI (t := 72) 0 C dX4_asked_38 (by rw [s_0]; rfl) (by decide) (by decide) rfl (by decide) ?_
        refine g_aload_n (q := 73) C dX4_asked_72 rfl (by first | exact hRef_r _ | exact hRef_o _ | exact hRef_n) rfl ?_
        refine g_get (q := 76) C hcl_X2 0 (by decide) qw_554 rfl dX4_asked_73 (by exact pO.2.1 oj hjn) rfl rfl ?_
        refine g_get (q := 79) C hcl_X0 0 (by decide) qw_672 rfl dX4_asked_76 (by exact pH.2.1 _ (hI.2.2.2.1 oj hjn)) rfl rfl ?_
        exact g_x (g_iret C dX4_asked_79 (by have e_ : sAsked S (nI oj) w = (0, asI S oj w) := (by simp [sAsked, show hNo (nI oj) = oj from nI_clamp hj31, f_1, f_12, f_38]); rw [e_]; exact ⟨rfl, (by rw [s_0, asI_0]), rfl⟩) (Nat.zero_le _) (Nat.zero_le _))
      by_cases s_1 : w = 1
      · skip
        have f_38 : inR 0 4 w = true := by rw [s_1]; decide
        refine g_tswI (t := 80) 1 C dX4_asked_38 (by rw [s_1]; rfl) (by decide) (by decide) rfl (by decide) ?_
        refine g_aload_n (q := 81) C dX4_asked_80 rfl (by first | exact hRef_r _ | exact hRef_o _ | exact hRef_n) rfl ?_
        refine g_get (q := 84) C hcl_X2 1 (by decide) qw_556 rfl dX4_asked_81 (by exact pO.2.1 oj hjn) rfl rfl ?_
        exact g_x (g_iret C dX4_asked_84 (by have e_ : sAsked S (nI oj) w = (0, asI S oj w) := (by simp [sAsked, show hNo (nI oj) = oj from nI_clamp hj31, f_1, f_12, f_38]); rw [e_]; exact ⟨rfl, (by rw [s_1, asI_1]), rfl⟩) (Nat.zero_le _) (Nat.zero_le _))
      by_cases s_2 : w = 2
      · skip
        have f_38 : inR 0 4 w = true := by rw [s_2]; decide
        refine g_tswI (t := 85) 2 C dX4_asked_38 (by rw [s_2]; rfl) (by decide) (by decide) rfl (by decide) ?_
        refine g_aload_n (q := 86) C dX4_asked_85 rfl (by first | exact hRef_r _ | exact hRef_o _ | exact hRef_n) rfl ?_
        refine g_get (q := 89) C hcl_X2 2 (by decide) qw_559 rfl dX4_asked_86 (by exact pO.2.1 oj hjn) rfl rfl ?_
        exact g_x (g_iret C dX4_asked_89 (by have e_ : sAsked S (nI oj) w = (0, asI S oj w) := (by simp [sAsked, show hNo (nI oj) = oj from nI_clamp hj31, f_1, f_12, f_38]); rw [e_]; exact ⟨rfl, (by rw [s_2, asI_2]), rfl⟩) (Nat.zero_le _) (Nat.zero_le _))
      by_cases s_3 : w = 3
      · skip
        have f_38 : inR 0 4 w = true := by rw [s_3]; decide
        refine g_tswI (t := 90) 3 C dX4_asked_38 (by rw [s_3]; rfl) (by decide) (by decide) rfl (by decide) ?_
        refine g_aload_n (q := 91) C dX4_asked_90 rfl (by first | exact hRef_r _ | exact hRef_o _ | exact hRef_n) rfl ?_
        refine g_get (q := 94) C hcl_X2 3 (by decide) qw_562 rfl dX4_asked_91 (by exact pO.2.1 oj hjn) rfl rfl ?_
        exact g_x (g_iret C dX4_asked_94 (by have e_ : sAsked S (nI oj) w = (0, asI S oj w) := (by simp [sAsked, show hNo (nI oj) = oj from nI_clamp hj31, f_1, f_12, f_38]); rw [e_]; exact ⟨rfl, (by rw [s_3, asI_3]), rfl⟩) (Nat.zero_le _) (Nat.zero_le _))
      by_cases s_4 : w = 4
      · skip
        have f_38 : inR 0 4 w = true := by rw [s_4]; decide
        refine g_tswI (t := 95) 4 C dX4_asked_38 (by rw [s_4]; rfl) (by decide) (by decide) rfl (by decide) ?_
        refine g_aload_n (q := 96) C dX4_asked_95 rfl (by first | exact hRef_r _ | exact hRef_o _ | exact hRef_n) rfl ?_
        refine g_get (q := 99) C hcl_X4 2 (by decide) qw_118 rfl dX4_asked_96 (by exact pL) rfl rfl ?_
        refine g_aload_n (q := 100) C dX4_asked_99 rfl (by first | exact hRef_r _ | exact hRef_o _ | exact hRef_n) rfl ?_
        refine g_callV1P (q := 103) C hy_X3_bundlesThatFit (c_X3_bundlesThatFit Γ l pRs pF (pO.2.1 oj hjn)) qw_411 (by exact pRs.2.choose_spec.choose_spec.1) rfl ⟨Nat.le_of_ble_eq_true rfl, Nat.le_of_ble_eq_true rfl⟩ (Nat.le_of_ble_eq_true rfl) rfl dX4_asked_100 ⟨rfl, rfl⟩ ⟨Nat.zero_le _, Nat.zero_le _⟩ rfl ?_
        exact g_x (g_iret C dX4_asked_103 (by have e_ : sAsked S (nI oj) w = (0, asI S oj w) := (by simp [sAsked, show hNo (nI oj) = oj from nI_clamp hj31, f_1, f_12, f_38]); rw [e_]; exact ⟨rfl, (by rw [s_4, asI_4]; exact RelV.fits hRV pH.2.2 hI.lt (hI.2.2.2.1 oj hjn) _), rfl⟩) (Nat.zero_le _) (Nat.zero_le _))
      refine g_tswO (t := 104) C dX4_asked_38 (by have n_0 := hNeI s_0 (m := 0) rfl; have n_1 := hNeI s_1 (m := 1) rfl; have n_2 := hNeI s_2 (m := 2) rfl; have n_3 := hNeI s_3 (m := 3) rfl; have n_4 := hNeI s_4 (m := 4) rfl; omega) (by decide) ?_
      have f_38 := inR_no4 s_0 s_1 s_2 s_3 s_4
      exact g_throwS C hl hno hThr_IOB hs_176 ⟨0, by simp [sAsked, f_1, f_12, f_38], rfl⟩ rfl dX4_asked_104 dX4_asked_107 dX4_asked_108 dX4_asked_110 dX4_asked_113 (by decide) (by decide) (by decide) (by decide) (by decide) (by decide)
    · skip
      have f_12 : (decide (0 ≤ nI oj) && decide (nI oj < nI (sO S))) = false := by simp [c_12]
      exact g_throwS C hl hno hThr_IOB hs_178 ⟨0, by simp [sAsked, f_1, f_12], rfl⟩ rfl dX4_asked_15 dX4_asked_18 dX4_asked_19 dX4_asked_21 dX4_asked_24 (by decide) (by decide) (by decide) (by decide) (by decide) (by decide)
set_option maxRecDepth 100000 in
set_option maxHeartbeats 4000000 in
theorem c_X4_asked_n (Γ : hGam) (l : Launch) {M : hM} {x : Nat} {S : hS} (o w : Int32) (hL0 : ltP Γ M x S) (hI : sInv S) (hv : (sAsked S o w).1 = 0) : hMet Γ l yX4_asked cX4_asked 4 (some .int) rn_X4_asked [.ref x, .int o, .int w] M (hpP M (sAsked S o w).2) := by
  obtain ⟨hl9, ol, rk, tr, edh, edo, hb, ob, hk, hk2, V, V2, g0, hL⟩ := hL0
  have hLc := hL
  obtain ⟨pL, pT, pH, pO, nHO, nED, pR, pR2, nHK, hRV⟩ := hLc
  obtain ⟨pRs, FS, pF⟩ := pR
  obtain ⟨pRs2, FS2, pF2⟩ := pR2
  refine hMet_of (by decide +kernel) (Nat.le_of_ble_eq_true rfl) (hCat_cons rfl (hCat_cons rfl (hCat_cons rfl hCat_nil))) (fun k C => ?_)
  show hG _ _ _ _ _ _ _ _ [some (.ref x), some (.int o), some (.int w), none] _
  refine g_iload_n (q := 1) C dX4_asked_0 rfl rfl ?_
  refine g_if_lt (t := 15) (q := 4) C dX4_asked_1 (by decide) rfl (fun c_1 => ?_) (fun c_1 => ?_)
  · skip
    have f_1 : (decide (0 ≤ o) && decide (o < nI (sO S))) = false := by simp [Int32.not_le.mpr c_1]
    exact absurd hv (by simp [sAsked, f_1])
  · skip
    obtain ⟨oj, hj31, rfl⟩ := nI_of c_1
    have f_1 := hj31
    refine g_iload_n (q := 5) C dX4_asked_4 rfl rfl ?_
    refine g_aload_n (q := 6) C dX4_asked_5 rfl (by first | exact hRef_r _ | exact hRef_o _ | exact hRef_n) rfl ?_
    refine g_get (q := 9) C hcl_X4 1 (by decide) qw_117 rfl dX4_asked_6 (by exact pL) rfl rfl ?_
    refine g_callV0P (q := 12) C hy_Jx4a65c_size_8abf5 (c_Jx4a65c_size_8abf5 Γ l pO.1) qw_271 (by exact pO.1.choose_spec.choose_spec.choose_spec.choose_spec.1) rfl ⟨Nat.le_of_ble_eq_true rfl, Nat.le_of_ble_eq_true rfl⟩ (Nat.le_of_ble_eq_true rfl) rfl dX4_asked_9 ⟨rfl, rfl⟩ ⟨Nat.zero_le _, Nat.zero_le _⟩ rfl ?_
    refine g_icmp_lt (t := 25) (q := 15) C dX4_asked_12 (by decide) rfl (fun c_12 => ?_) (fun c_12 => ?_)
    · skip
      have f_12 : (decide (0 ≤ nI oj) && decide (nI oj < nI (sO S))) = true := by simp [c_12, nI_pos' hj31]
      have hO6 := hI.2.1
      have hjn : oj < sO S := (nI_ltI hj31 (by omega)).mp c_12
      refine g_aload_n (q := 26) C dX4_asked_25 rfl (by first | exact hRef_r _ | exact hRef_o _ | exact hRef_n) rfl ?_
      refine g_get (q := 29) C hcl_X4 1 (by decide) qw_117 rfl dX4_asked_26 (by exact pL) rfl rfl ?_
      refine g_iload_n (q := 30) C dX4_asked_29 rfl rfl ?_
      refine g_callV1O (q := 33) C hy_Jx4a65c_get_915e3 (c_Jx4a65c_get_915e3 Γ l oj pO.1 hjn) qw_275 (by exact pO.1.choose_spec.choose_spec.choose_spec.choose_spec.1) rfl ⟨Nat.le_of_ble_eq_true rfl, Nat.le_of_ble_eq_true rfl⟩ (Nat.le_of_ble_eq_true rfl) rfl dX4_asked_30 ⟨rfl, rfl⟩ ⟨Nat.zero_le _, Nat.zero_le _⟩ rfl ?_
      refine g_cast (q := 36) C qw_289 rfl (pO.2.1 oj hjn) dX4_asked_33 rfl ?_
      refine g_astore3 (q := 37) C dX4_asked_36 (by first | exact hRef_r _ | exact hRef_o _ | exact hRef_n) (by first | rfl | exact hNw_rf _) rfl ?_
      refine g_iload_n (q := 38) C dX4_asked_37 rfl rfl ?_
      by_cases s_0 : w = 0
      · skip
        have f_38 : inR 0 4 w = true := by rw [s_0]; decide
        refine g_tswI (t := 72) 0 C dX4_asked_38 (by rw [s_0]; rfl) (by decide) (by decide) rfl (by decide) ?_
        refine g_aload_n (q := 73) C dX4_asked_72 rfl (by first | exact hRef_r _ | exact hRef_o _ | exact hRef_n) rfl ?_
        refine g_get (q := 76) C hcl_X2 0 (by decide) qw_554 rfl dX4_asked_73 (by exact pO.2.1 oj hjn) rfl rfl ?_
        refine g_get (q := 79) C hcl_X0 0 (by decide) qw_672 rfl dX4_asked_76 (by exact pH.2.1 _ (hI.2.2.2.1 oj hjn)) rfl rfl ?_
        exact g_iret C dX4_asked_79 (by have e_ : sAsked S (nI oj) w = (0, asI S oj w) := (by simp [sAsked, show hNo (nI oj) = oj from nI_clamp hj31, f_1, f_12, f_38]); rw [e_]; exact ⟨(by rw [s_0, asI_0]), rfl⟩) (Nat.zero_le _) (Nat.zero_le _)
      by_cases s_1 : w = 1
      · skip
        have f_38 : inR 0 4 w = true := by rw [s_1]; decide
        refine g_tswI (t := 80) 1 C dX4_asked_38 (by rw [s_1]; rfl) (by decide) (by decide) rfl (by decide) ?_
        refine g_aload_n (q := 81) C dX4_asked_80 rfl (by first | exact hRef_r _ | exact hRef_o _ | exact hRef_n) rfl ?_
        refine g_get (q := 84) C hcl_X2 1 (by decide) qw_556 rfl dX4_asked_81 (by exact pO.2.1 oj hjn) rfl rfl ?_
        exact g_iret C dX4_asked_84 (by have e_ : sAsked S (nI oj) w = (0, asI S oj w) := (by simp [sAsked, show hNo (nI oj) = oj from nI_clamp hj31, f_1, f_12, f_38]); rw [e_]; exact ⟨(by rw [s_1, asI_1]), rfl⟩) (Nat.zero_le _) (Nat.zero_le _)
      by_cases s_2 : w = 2
      · skip
        have f_38 : inR 0 4 w = true := by rw [s_2]; decide
        refine g_tswI (t := 85) 2 C dX4_asked_38 (by rw [s_2]; rfl) (by decide) (by decide) rfl (by decide) ?_
        refine g_aload_n (q := 86) C dX4_asked_85 rfl (by first | exact hRef_r _ | exact hRef_o _ | exact hRef_n) rfl ?_
        refine g_get (q := 89) C hcl_X2 2 (by decide) qw_559 rfl dX4_asked_86 (by exact pO.2.1 oj hjn) rfl rfl ?_
        exact g_iret C dX4_asked_89 (by have e_ : sAsked S (nI oj) w = (0, asI S oj w) := (by simp [sAsked, show hNo (nI oj) = oj from nI_clamp hj31, f_1, f_12, f_38]); rw [e_]; exact ⟨(by rw [s_2, asI_2]), rfl⟩) (Nat.zero_le _) (Nat.zero_le _)
      by_cases s_3 : w = 3
      · skip
        have f_38 : inR 0 4 w = true := by rw [s_3]; decide
        refine g_tswI (t := 90) 3 C dX4_asked_38 (by rw [s_3]; rfl) (by decide) (by decide) rfl (by decide) ?_
        refine g_aload_n (q := 91) C dX4_asked_90 rfl (by first | exact hRef_r _ | exact hRef_o _ | exact hRef_n) rfl ?_
        refine g_get (q := 94) C hcl_X2 3 (by decide) qw_562 rfl dX4_asked_91 (by exact pO.2.1 oj hjn) rfl rfl ?_
        exact g_iret C dX4_asked_94 (by have e_ : sAsked S (nI oj) w = (0, asI S oj w) := (by simp [sAsked, show hNo (nI oj) = oj from nI_clamp hj31, f_1, f_12, f_38]); rw [e_]; exact ⟨(by rw [s_3, asI_3]), rfl⟩) (Nat.zero_le _) (Nat.zero_le _)
      by_cases s_4 : w = 4
      · skip
        have f_38 : inR 0 4 w = true := by rw [s_4]; decide
        refine g_tswI (t := 95) 4 C dX4_asked_38 (by rw [s_4]; rfl) (by decide) (by decide) rfl (by decide) ?_
        refine g_aload_n (q := 96) C dX4_asked_95 rfl (by first | exact hRef_r _ | exact hRef_o _ | exact hRef_n) rfl ?_
        refine g_get (q := 99) C hcl_X4 2 (by decide) qw_118 rfl dX4_asked_96 (by exact pL) rfl rfl ?_
        refine g_aload_n (q := 100) C dX4_asked_99 rfl (by first | exact hRef_r _ | exact hRef_o _ | exact hRef_n) rfl ?_
        refine g_callV1P (q := 103) C hy_X3_bundlesThatFit (c_X3_bundlesThatFit Γ l pRs pF (pO.2.1 oj hjn)) qw_411 (by exact pRs.2.choose_spec.choose_spec.1) rfl ⟨Nat.le_of_ble_eq_true rfl, Nat.le_of_ble_eq_true rfl⟩ (Nat.le_of_ble_eq_true rfl) rfl dX4_asked_100 ⟨rfl, rfl⟩ ⟨Nat.zero_le _, Nat.zero_le _⟩ rfl ?_
        exact g_iret C dX4_asked_103 (by have e_ : sAsked S (nI oj) w = (0, asI S oj w) := (by simp [sAsked, show hNo (nI oj) = oj from nI_clamp hj31, f_1, f_12, f_38]); rw [e_]; exact ⟨(by rw [s_4, asI_4]; exact RelV.fits hRV pH.2.2 hI.lt (hI.2.2.2.1 oj hjn) _), rfl⟩) (Nat.zero_le _) (Nat.zero_le _)
      refine g_tswO (t := 104) C dX4_asked_38 (by have n_0 := hNeI s_0 (m := 0) rfl; have n_1 := hNeI s_1 (m := 1) rfl; have n_2 := hNeI s_2 (m := 2) rfl; have n_3 := hNeI s_3 (m := 3) rfl; have n_4 := hNeI s_4 (m := 4) rfl; omega) (by decide) ?_
      have f_38 := inR_no4 s_0 s_1 s_2 s_3 s_4
      exact absurd hv (by simp [sAsked, f_1, f_12, f_38])
    · skip
      have f_12 : (decide (0 ≤ nI oj) && decide (nI oj < nI (sO S))) = false := by simp [c_12]
      exact absurd hv (by simp [sAsked, f_1, f_12])
set_option maxRecDepth 100000 in
set_option maxHeartbeats 4000000 in
theorem c_X4_count (Γ : hGam) (l : Launch) {M : hM} {x : Nat} {S : hS} (w : Int32) (hl : l.stackTraces = false) (hL0 : ltP Γ M x S) (hI : sInv S) : hMetX Γ l yX4_count cX4_count 2 (some .int) rm_X4_count [.ref x, .int w] M (hpI (fun a M1 => (sCount S w).1 = 0 ∧ a = (sCount S w).2 ∧ M1 = M)) (thrN [eIOB] (sCount S w).1) := by
  obtain ⟨hl9, ol, rk, tr, edh, edo, hb, ob, hk, hk2, V, V2, g0, hL⟩ := hL0
  have hLc := hL
  obtain ⟨pL, pT, pH, pO, nHO, nED, pR, pR2, nHK, hRV⟩ := hLc
  obtain ⟨pRs, FS, pF⟩ := pR
  obtain ⟨pRs2, FS2, pF2⟩ := pR2
  refine hMetX_of (by decide +kernel) (Nat.le_of_ble_eq_true rfl) (hCat_cons rfl (hCat_cons rfl hCat_nil)) (fun k C hno => ?_)
  show hG _ _ _ _ _ _ _ _ [some (.ref x), some (.int w)] _
  refine g_iload_n (q := 1) C dX4_count_0 rfl rfl ?_
  by_cases s_0 : w = 0
  · skip
    have f_1 : inR 0 8 w = true := by rw [s_0]; decide
    refine g_tswI (t := 52) 0 C dX4_count_1 (by rw [s_0]; rfl) (by decide) (by decide) rfl (by decide) ?_
    refine g_aload_n (q := 53) C dX4_count_52 rfl (by first | exact hRef_r _ | exact hRef_o _ | exact hRef_n) rfl ?_
    refine g_get (q := 56) C hcl_X4 5 (by decide) qw_121 rfl dX4_count_53 (by exact pL) rfl rfl ?_
    exact g_x (g_iret C dX4_count_56 (by have e_ : sCount S w = (0, cnI S w) := (by simp [sCount, f_1]); rw [e_]; exact ⟨rfl, (by rw [s_0, cnI_0]), rfl⟩) (Nat.zero_le _) (Nat.zero_le _))
  by_cases s_1 : w = 1
  · skip
    have f_1 : inR 0 8 w = true := by rw [s_1]; decide
    refine g_tswI (t := 57) 1 C dX4_count_1 (by rw [s_1]; rfl) (by decide) (by decide) rfl (by decide) ?_
    refine g_aload_n (q := 58) C dX4_count_57 rfl (by first | exact hRef_r _ | exact hRef_o _ | exact hRef_n) rfl ?_
    refine g_get (q := 61) C hcl_X4 0 (by decide) qw_116 rfl dX4_count_58 (by exact pL) rfl rfl ?_
    refine g_callV0P (q := 64) C hy_Jx4a65c_size_8abf5 (c_Jx4a65c_size_8abf5 Γ l pH.1) qw_271 (by exact pH.1.choose_spec.choose_spec.choose_spec.choose_spec.1) rfl ⟨Nat.le_of_ble_eq_true rfl, Nat.le_of_ble_eq_true rfl⟩ (Nat.le_of_ble_eq_true rfl) rfl dX4_count_61 ⟨rfl, rfl⟩ ⟨Nat.zero_le _, Nat.zero_le _⟩ rfl ?_
    exact g_x (g_iret C dX4_count_64 (by have e_ : sCount S w = (0, cnI S w) := (by simp [sCount, f_1]); rw [e_]; exact ⟨rfl, (by rw [s_1, cnI_1]), rfl⟩) (Nat.zero_le _) (Nat.zero_le _))
  by_cases s_2 : w = 2
  · skip
    have f_1 : inR 0 8 w = true := by rw [s_2]; decide
    refine g_tswI (t := 65) 2 C dX4_count_1 (by rw [s_2]; rfl) (by decide) (by decide) rfl (by decide) ?_
    refine g_aload_n (q := 66) C dX4_count_65 rfl (by first | exact hRef_r _ | exact hRef_o _ | exact hRef_n) rfl ?_
    refine g_get (q := 69) C hcl_X4 2 (by decide) qw_118 rfl dX4_count_66 (by exact pL) rfl rfl ?_
    refine g_callV0P (q := 72) C hy_X3_bundles (c_X3_bundles Γ l pRs pF) qw_419 (by exact pRs.2.choose_spec.choose_spec.1) rfl ⟨Nat.le_of_ble_eq_true rfl, Nat.le_of_ble_eq_true rfl⟩ (Nat.le_of_ble_eq_true rfl) rfl dX4_count_69 ⟨rfl, rfl⟩ ⟨Nat.zero_le _, Nat.zero_le _⟩ rfl ?_
    exact g_x (g_iret C dX4_count_72 (by have e_ : sCount S w = (0, cnI S w) := (by simp [sCount, f_1]); rw [e_]; exact ⟨rfl, (by rw [s_2, cnI_2]; exact RelV.cnt hRV), rfl⟩) (Nat.zero_le _) (Nat.zero_le _))
  by_cases s_3 : w = 3
  · skip
    have f_1 : inR 0 8 w = true := by rw [s_3]; decide
    refine g_tswI (t := 73) 3 C dX4_count_1 (by rw [s_3]; rfl) (by decide) (by decide) rfl (by decide) ?_
    refine g_aload_n (q := 74) C dX4_count_73 rfl (by first | exact hRef_r _ | exact hRef_o _ | exact hRef_n) rfl ?_
    refine g_get (q := 77) C hcl_X4 2 (by decide) qw_118 rfl dX4_count_74 (by exact pL) rfl rfl ?_
    refine g_callV0P (q := 80) C hy_X3_mouldyBundles (c_X3_mouldyBundles Γ l pRs pF) qw_363 (by exact pRs.2.choose_spec.choose_spec.1) rfl ⟨Nat.le_of_ble_eq_true rfl, Nat.le_of_ble_eq_true rfl⟩ (Nat.le_of_ble_eq_true rfl) rfl dX4_count_77 ⟨rfl, rfl⟩ ⟨Nat.zero_le _, Nat.zero_le _⟩ rfl ?_
    exact g_x (g_iret C dX4_count_80 (by have e_ : sCount S w = (0, cnI S w) := (by simp [sCount, f_1]); rw [e_]; exact ⟨rfl, (by rw [s_3, cnI_3]; exact RelV.bad hRV), rfl⟩) (Nat.zero_le _) (Nat.zero_le _))
  by_cases s_4 : w = 4
  · skip
    have f_1 : inR 0 8 w = true := by rw [s_4]; decide
    refine g_tswI (t := 81) 4 C dX4_count_1 (by rw [s_4]; rfl) (by decide) (by decide) rfl (by decide) ?_
    refine g_aload_n (q := 82) C dX4_count_81 rfl (by first | exact hRef_r _ | exact hRef_o _ | exact hRef_n) rfl ?_
    refine g_get (q := 85) C hcl_X4 1 (by decide) qw_117 rfl dX4_count_82 (by exact pL) rfl rfl ?_
    refine g_callV0P (q := 88) C hy_Jx4a65c_size_8abf5 (c_Jx4a65c_size_8abf5 Γ l pO.1) qw_271 (by exact pO.1.choose_spec.choose_spec.choose_spec.choose_spec.1) rfl ⟨Nat.le_of_ble_eq_true rfl, Nat.le_of_ble_eq_true rfl⟩ (Nat.le_of_ble_eq_true rfl) rfl dX4_count_85 ⟨rfl, rfl⟩ ⟨Nat.zero_le _, Nat.zero_le _⟩ rfl ?_
    exact g_x (g_iret C dX4_count_88 (by have e_ : sCount S w = (0, cnI S w) := (by simp [sCount, f_1]); rw [e_]; exact ⟨rfl, (by rw [s_4, cnI_4]), rfl⟩) (Nat.zero_le _) (Nat.zero_le _))
  by_cases s_5 : w = 5
  · skip
    have f_1 : inR 0 8 w = true := by rw [s_5]; decide
    refine g_tswI (t := 89) 5 C dX4_count_1 (by rw [s_5]; rfl) (by decide) (by decide) rfl (by decide) ?_
    refine g_aload_n (q := 90) C dX4_count_89 rfl (by first | exact hRef_r _ | exact hRef_o _ | exact hRef_n) rfl ?_
    refine g_callV0P (q := 93) C hy_X4_ordersThatGotAll (c_X4_ordersThatGotAll Γ l pL pO hI.2.1) qw_423 (by exact pL) rfl ⟨Nat.le_of_ble_eq_true rfl, Nat.le_of_ble_eq_true rfl⟩ (Nat.le_of_ble_eq_true rfl) rfl dX4_count_90 ⟨rfl, rfl⟩ ⟨Nat.zero_le _, Nat.zero_le _⟩ rfl ?_
    exact g_x (g_iret C dX4_count_93 (by have e_ : sCount S w = (0, cnI S w) := (by simp [sCount, f_1]); rw [e_]; exact ⟨rfl, (by rw [s_5, cnI_5]), rfl⟩) (Nat.zero_le _) (Nat.zero_le _))
  by_cases s_6 : w = 6
  · skip
    have f_1 : inR 0 8 w = true := by rw [s_6]; decide
    refine g_tswI (t := 94) 6 C dX4_count_1 (by rw [s_6]; rfl) (by decide) (by decide) rfl (by decide) ?_
    refine g_aload_n (q := 95) C dX4_count_94 rfl (by first | exact hRef_r _ | exact hRef_o _ | exact hRef_n) rfl ?_
    refine g_callV0P (q := 98) C hy_X4_bundlesGiven (c_X4_bundlesGiven Γ l pL pO hI.2.1) qw_428 (by exact pL) rfl ⟨Nat.le_of_ble_eq_true rfl, Nat.le_of_ble_eq_true rfl⟩ (Nat.le_of_ble_eq_true rfl) rfl dX4_count_95 ⟨rfl, rfl⟩ ⟨Nat.zero_le _, Nat.zero_le _⟩ rfl ?_
    exact g_x (g_iret C dX4_count_98 (by have e_ : sCount S w = (0, cnI S w) := (by simp [sCount, f_1]); rw [e_]; exact ⟨rfl, (by rw [s_6, cnI_6]), rfl⟩) (Nat.zero_le _) (Nat.zero_le _))
  by_cases s_7 : w = 7
  · skip
    have f_1 : inR 0 8 w = true := by rw [s_7]; decide
    refine g_tswI (t := 99) 7 C dX4_count_1 (by rw [s_7]; rfl) (by decide) (by decide) rfl (by decide) ?_
    refine g_aload_n (q := 100) C dX4_count_99 rfl (by first | exact hRef_r _ | exact hRef_o _ | exact hRef_n) rfl ?_
    refine g_get (q := 103) C hcl_X4 4 (by decide) qw_120 rfl dX4_count_100 (by exact pL) rfl rfl ?_
    exact g_x (g_iret C dX4_count_103 (by have e_ : sCount S w = (0, cnI S w) := (by simp [sCount, f_1]); rw [e_]; exact ⟨rfl, (by rw [s_7, cnI_7]), rfl⟩) (Nat.zero_le _) (Nat.zero_le _))
  by_cases s_8 : w = 8
  · skip
    have f_1 : inR 0 8 w = true := by rw [s_8]; decide
    refine g_tswI (t := 104) 8 C dX4_count_1 (by rw [s_8]; rfl) (by decide) (by decide) rfl (by decide) ?_
    refine g_aload_n (q := 105) C dX4_count_104 rfl (by first | exact hRef_r _ | exact hRef_o _ | exact hRef_n) rfl ?_
    refine g_get (q := 108) C hcl_X4 2 (by decide) qw_118 rfl dX4_count_105 (by exact pL) rfl rfl ?_
    refine g_callV0P (q := 111) C hy_X3_sumOfWetness (c_X3_sumOfWetness Γ l pRs pF) qw_432 (by exact pRs.2.choose_spec.choose_spec.1) rfl ⟨Nat.le_of_ble_eq_true rfl, Nat.le_of_ble_eq_true rfl⟩ (Nat.le_of_ble_eq_true rfl) rfl dX4_count_108 ⟨rfl, rfl⟩ ⟨Nat.zero_le _, Nat.zero_le _⟩ rfl ?_
    exact g_x (g_iret C dX4_count_111 (by have e_ : sCount S w = (0, cnI S w) := (by simp [sCount, f_1]); rw [e_]; exact ⟨rfl, (by rw [s_8, cnI_8]; exact RelV.sum hRV), rfl⟩) (Nat.zero_le _) (Nat.zero_le _))
  refine g_tswO (t := 112) C dX4_count_1 (by have n_0 := hNeI s_0 (m := 0) rfl; have n_1 := hNeI s_1 (m := 1) rfl; have n_2 := hNeI s_2 (m := 2) rfl; have n_3 := hNeI s_3 (m := 3) rfl; have n_4 := hNeI s_4 (m := 4) rfl; have n_5 := hNeI s_5 (m := 5) rfl; have n_6 := hNeI s_6 (m := 6) rfl; have n_7 := hNeI s_7 (m := 7) rfl; have n_8 := hNeI s_8 (m := 8) rfl; omega) (by decide) ?_
  have f_1 := inR_no8 s_0 s_1 s_2 s_3 s_4 s_5 s_6 s_7 s_8
  exact g_throwS C hl hno hThr_IOB hs_208 ⟨0, by simp [sCount, f_1], rfl⟩ rfl dX4_count_112 dX4_count_115 dX4_count_116 dX4_count_118 dX4_count_121 (by decide) (by decide) (by decide) (by decide) (by decide) (by decide)
set_option maxRecDepth 100000 in
set_option maxHeartbeats 4000000 in
theorem c_X4_count_n (Γ : hGam) (l : Launch) {M : hM} {x : Nat} {S : hS} (w : Int32) (hL0 : ltP Γ M x S) (hI : sInv S) (hv : (sCount S w).1 = 0) : hMet Γ l yX4_count cX4_count 2 (some .int) rn_X4_count [.ref x, .int w] M (hpP M (sCount S w).2) := by
  obtain ⟨hl9, ol, rk, tr, edh, edo, hb, ob, hk, hk2, V, V2, g0, hL⟩ := hL0
  have hLc := hL
  obtain ⟨pL, pT, pH, pO, nHO, nED, pR, pR2, nHK, hRV⟩ := hLc
  obtain ⟨pRs, FS, pF⟩ := pR
  obtain ⟨pRs2, FS2, pF2⟩ := pR2
  refine hMet_of (by decide +kernel) (Nat.le_of_ble_eq_true rfl) (hCat_cons rfl (hCat_cons rfl hCat_nil)) (fun k C => ?_)
  show hG _ _ _ _ _ _ _ _ [some (.ref x), some (.int w)] _
  refine g_iload_n (q := 1) C dX4_count_0 rfl rfl ?_
  by_cases s_0 : w = 0
  · skip
    have f_1 : inR 0 8 w = true := by rw [s_0]; decide
    refine g_tswI (t := 52) 0 C dX4_count_1 (by rw [s_0]; rfl) (by decide) (by decide) rfl (by decide) ?_
    refine g_aload_n (q := 53) C dX4_count_52 rfl (by first | exact hRef_r _ | exact hRef_o _ | exact hRef_n) rfl ?_
    refine g_get (q := 56) C hcl_X4 5 (by decide) qw_121 rfl dX4_count_53 (by exact pL) rfl rfl ?_
    exact g_iret C dX4_count_56 (by have e_ : sCount S w = (0, cnI S w) := (by simp [sCount, f_1]); rw [e_]; exact ⟨(by rw [s_0, cnI_0]), rfl⟩) (Nat.zero_le _) (Nat.zero_le _)
  by_cases s_1 : w = 1
  · skip
    have f_1 : inR 0 8 w = true := by rw [s_1]; decide
    refine g_tswI (t := 57) 1 C dX4_count_1 (by rw [s_1]; rfl) (by decide) (by decide) rfl (by decide) ?_
    refine g_aload_n (q := 58) C dX4_count_57 rfl (by first | exact hRef_r _ | exact hRef_o _ | exact hRef_n) rfl ?_
    refine g_get (q := 61) C hcl_X4 0 (by decide) qw_116 rfl dX4_count_58 (by exact pL) rfl rfl ?_
    refine g_callV0P (q := 64) C hy_Jx4a65c_size_8abf5 (c_Jx4a65c_size_8abf5 Γ l pH.1) qw_271 (by exact pH.1.choose_spec.choose_spec.choose_spec.choose_spec.1) rfl ⟨Nat.le_of_ble_eq_true rfl, Nat.le_of_ble_eq_true rfl⟩ (Nat.le_of_ble_eq_true rfl) rfl dX4_count_61 ⟨rfl, rfl⟩ ⟨Nat.zero_le _, Nat.zero_le _⟩ rfl ?_
    exact g_iret C dX4_count_64 (by have e_ : sCount S w = (0, cnI S w) := (by simp [sCount, f_1]); rw [e_]; exact ⟨(by rw [s_1, cnI_1]), rfl⟩) (Nat.zero_le _) (Nat.zero_le _)
  by_cases s_2 : w = 2
  · skip
    have f_1 : inR 0 8 w = true := by rw [s_2]; decide
    refine g_tswI (t := 65) 2 C dX4_count_1 (by rw [s_2]; rfl) (by decide) (by decide) rfl (by decide) ?_
    refine g_aload_n (q := 66) C dX4_count_65 rfl (by first | exact hRef_r _ | exact hRef_o _ | exact hRef_n) rfl ?_
    refine g_get (q := 69) C hcl_X4 2 (by decide) qw_118 rfl dX4_count_66 (by exact pL) rfl rfl ?_
    refine g_callV0P (q := 72) C hy_X3_bundles (c_X3_bundles Γ l pRs pF) qw_419 (by exact pRs.2.choose_spec.choose_spec.1) rfl ⟨Nat.le_of_ble_eq_true rfl, Nat.le_of_ble_eq_true rfl⟩ (Nat.le_of_ble_eq_true rfl) rfl dX4_count_69 ⟨rfl, rfl⟩ ⟨Nat.zero_le _, Nat.zero_le _⟩ rfl ?_
    exact g_iret C dX4_count_72 (by have e_ : sCount S w = (0, cnI S w) := (by simp [sCount, f_1]); rw [e_]; exact ⟨(by rw [s_2, cnI_2]; exact RelV.cnt hRV), rfl⟩) (Nat.zero_le _) (Nat.zero_le _)
  by_cases s_3 : w = 3
  · skip
    have f_1 : inR 0 8 w = true := by rw [s_3]; decide
    refine g_tswI (t := 73) 3 C dX4_count_1 (by rw [s_3]; rfl) (by decide) (by decide) rfl (by decide) ?_
    refine g_aload_n (q := 74) C dX4_count_73 rfl (by first | exact hRef_r _ | exact hRef_o _ | exact hRef_n) rfl ?_
    refine g_get (q := 77) C hcl_X4 2 (by decide) qw_118 rfl dX4_count_74 (by exact pL) rfl rfl ?_
    refine g_callV0P (q := 80) C hy_X3_mouldyBundles (c_X3_mouldyBundles Γ l pRs pF) qw_363 (by exact pRs.2.choose_spec.choose_spec.1) rfl ⟨Nat.le_of_ble_eq_true rfl, Nat.le_of_ble_eq_true rfl⟩ (Nat.le_of_ble_eq_true rfl) rfl dX4_count_77 ⟨rfl, rfl⟩ ⟨Nat.zero_le _, Nat.zero_le _⟩ rfl ?_
    exact g_iret C dX4_count_80 (by have e_ : sCount S w = (0, cnI S w) := (by simp [sCount, f_1]); rw [e_]; exact ⟨(by rw [s_3, cnI_3]; exact RelV.bad hRV), rfl⟩) (Nat.zero_le _) (Nat.zero_le _)
  by_cases s_4 : w = 4
  · skip
    have f_1 : inR 0 8 w = true := by rw [s_4]; decide
    refine g_tswI (t := 81) 4 C dX4_count_1 (by rw [s_4]; rfl) (by decide) (by decide) rfl (by decide) ?_
    refine g_aload_n (q := 82) C dX4_count_81 rfl (by first | exact hRef_r _ | exact hRef_o _ | exact hRef_n) rfl ?_
    refine g_get (q := 85) C hcl_X4 1 (by decide) qw_117 rfl dX4_count_82 (by exact pL) rfl rfl ?_
    refine g_callV0P (q := 88) C hy_Jx4a65c_size_8abf5 (c_Jx4a65c_size_8abf5 Γ l pO.1) qw_271 (by exact pO.1.choose_spec.choose_spec.choose_spec.choose_spec.1) rfl ⟨Nat.le_of_ble_eq_true rfl, Nat.le_of_ble_eq_true rfl⟩ (Nat.le_of_ble_eq_true rfl) rfl dX4_count_85 ⟨rfl, rfl⟩ ⟨Nat.zero_le _, Nat.zero_le _⟩ rfl ?_
    exact g_iret C dX4_count_88 (by have e_ : sCount S w = (0, cnI S w) := (by simp [sCount, f_1]); rw [e_]; exact ⟨(by rw [s_4, cnI_4]), rfl⟩) (Nat.zero_le _) (Nat.zero_le _)
  by_cases s_5 : w = 5
  · skip
    have f_1 : inR 0 8 w = true := by rw [s_5]; decide
    refine g_tswI (t := 89) 5 C dX4_count_1 (by rw [s_5]; rfl) (by decide) (by decide) rfl (by decide) ?_
    refine g_aload_n (q := 90) C dX4_count_89 rfl (by first | exact hRef_r _ | exact hRef_o _ | exact hRef_n) rfl ?_
    refine g_callV0P (q := 93) C hy_X4_ordersThatGotAll (c_X4_ordersThatGotAll Γ l pL pO hI.2.1) qw_423 (by exact pL) rfl ⟨Nat.le_of_ble_eq_true rfl, Nat.le_of_ble_eq_true rfl⟩ (Nat.le_of_ble_eq_true rfl) rfl dX4_count_90 ⟨rfl, rfl⟩ ⟨Nat.zero_le _, Nat.zero_le _⟩ rfl ?_
    exact g_iret C dX4_count_93 (by have e_ : sCount S w = (0, cnI S w) := (by simp [sCount, f_1]); rw [e_]; exact ⟨(by rw [s_5, cnI_5]), rfl⟩) (Nat.zero_le _) (Nat.zero_le _)
  by_cases s_6 : w = 6
  · skip
    have f_1 : inR 0 8 w = true := by rw [s_6]; decide
    refine g_tswI (t := 94) 6 C dX4_count_1 (by rw [s_6]; rfl) (by decide) (by decide) rfl (by decide) ?_
    refine g_aload_n (q := 95) C dX4_count_94 rfl (by first | exact hRef_r _ | exact hRef_o _ | exact hRef_n) rfl ?_
    refine g_callV0P (q := 98) C hy_X4_bundlesGiven (c_X4_bundlesGiven Γ l pL pO hI.2.1) qw_428 (by exact pL) rfl ⟨Nat.le_of_ble_eq_true rfl, Nat.le_of_ble_eq_true rfl⟩ (Nat.le_of_ble_eq_true rfl) rfl dX4_count_95 ⟨rfl, rfl⟩ ⟨Nat.zero_le _, Nat.zero_le _⟩ rfl ?_
    exact g_iret C dX4_count_98 (by have e_ : sCount S w = (0, cnI S w) := (by simp [sCount, f_1]); rw [e_]; exact ⟨(by rw [s_6, cnI_6]), rfl⟩) (Nat.zero_le _) (Nat.zero_le _)
  by_cases s_7 : w = 7
  · skip
    have f_1 : inR 0 8 w = true := by rw [s_7]; decide
    refine g_tswI (t := 99) 7 C dX4_count_1 (by rw [s_7]; rfl) (by decide) (by decide) rfl (by decide) ?_
    refine g_aload_n (q := 100) C dX4_count_99 rfl (by first | exact hRef_r _ | exact hRef_o _ | exact hRef_n) rfl ?_
    refine g_get (q := 103) C hcl_X4 4 (by decide) qw_120 rfl dX4_count_100 (by exact pL) rfl rfl ?_
    exact g_iret C dX4_count_103 (by have e_ : sCount S w = (0, cnI S w) := (by simp [sCount, f_1]); rw [e_]; exact ⟨(by rw [s_7, cnI_7]), rfl⟩) (Nat.zero_le _) (Nat.zero_le _)
  by_cases s_8 : w = 8
  · skip
    have f_1 : inR 0 8 w = true := by rw [s_8]; decide
    refine g_tswI (t := 104) 8 C dX4_count_1 (by rw [s_8]; rfl) (by decide) (by decide) rfl (by decide) ?_
    refine g_aload_n (q := 105) C dX4_count_104 rfl (by first | exact hRef_r _ | exact hRef_o _ | exact hRef_n) rfl ?_
    refine g_get (q := 108) C hcl_X4 2 (by decide) qw_118 rfl dX4_count_105 (by exact pL) rfl rfl ?_
    refine g_callV0P (q := 111) C hy_X3_sumOfWetness (c_X3_sumOfWetness Γ l pRs pF) qw_432 (by exact pRs.2.choose_spec.choose_spec.1) rfl ⟨Nat.le_of_ble_eq_true rfl, Nat.le_of_ble_eq_true rfl⟩ (Nat.le_of_ble_eq_true rfl) rfl dX4_count_108 ⟨rfl, rfl⟩ ⟨Nat.zero_le _, Nat.zero_le _⟩ rfl ?_
    exact g_iret C dX4_count_111 (by have e_ : sCount S w = (0, cnI S w) := (by simp [sCount, f_1]); rw [e_]; exact ⟨(by rw [s_8, cnI_8]; exact RelV.sum hRV), rfl⟩) (Nat.zero_le _) (Nat.zero_le _)
  refine g_tswO (t := 112) C dX4_count_1 (by have n_0 := hNeI s_0 (m := 0) rfl; have n_1 := hNeI s_1 (m := 1) rfl; have n_2 := hNeI s_2 (m := 2) rfl; have n_3 := hNeI s_3 (m := 3) rfl; have n_4 := hNeI s_4 (m := 4) rfl; have n_5 := hNeI s_5 (m := 5) rfl; have n_6 := hNeI s_6 (m := 6) rfl; have n_7 := hNeI s_7 (m := 7) rfl; have n_8 := hNeI s_8 (m := 8) rfl; omega) (by decide) ?_
  have f_1 := inR_no8 s_0 s_1 s_2 s_3 s_4 s_5 s_6 s_7 s_8
  exact absurd hv (by simp [sCount, f_1])
