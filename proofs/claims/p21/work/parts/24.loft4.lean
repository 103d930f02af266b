set_option maxRecDepth 100000 in
set_option maxHeartbeats 4000000 in
theorem c_X4_foresee (Γ : hGam) (l : Launch) {M : hM} {x : Nat} {S : hS} (d dmp w : Int32) (hl : l.stackTraces = false) (hL0 : ltP Γ M x S) (hI : sInv S) : hMetX Γ l yX4_foresee cX4_foresee 4 (some .int) rm_X4_foresee [.ref x, .int d, .int dmp, .int w] M (hpI (fun a M1 => (sFore S d dmp w).1 = 0 ∧ a = (sFore S d dmp w).2 ∧ ltP Γ M1 x S ∧ hKp noCls M M1)) (thrN [eIAE, eIOB] (sFore S d dmp w).1) := by
  obtain ⟨hl9, ol, rk, tr, edh, edo, hb, ob, hk, hk2, V, V2, g0, hL⟩ := hL0
  have hLc := hL
  obtain ⟨pL, pT, pH, pO, nHO, nED, pR, pR2, nHK, hRV⟩ := hLc
  obtain ⟨pRs, FS, pF⟩ := pR
  obtain ⟨pRs2, FS2, pF2⟩ := pR2
  refine hMetX_of (by decide +kernel) (Nat.le_of_ble_eq_true rfl) (hCat_cons rfl (hCat_cons rfl (hCat_cons rfl (hCat_cons rfl hCat_nil)))) (fun k C hno => ?_)
  show hG _ _ _ _ _ _ _ _ [some (.ref x), some (.int d), some (.int dmp), some (.int w)] _
  refine g_iload_n (q := 1) C dX4_foresee_0 rfl rfl ?_
  refine g_iconst (q := 2) (1) C dX4_foresee_1 (by decide) rfl ?_
  refine g_bipush (q := 4) (60) C dX4_foresee_2 (by decide) rfl ?_
  refine g_callS3P (q := 7) C hy_X4_isWithin (c_X4_isWithin Γ l d 1 60) qw_256 ⟨Nat.le_of_ble_eq_true rfl, Nat.le_of_ble_eq_true rfl⟩ (Nat.le_of_ble_eq_true rfl) rfl dX4_foresee_4 ⟨rfl, rfl⟩ ⟨Nat.zero_le _, Nat.zero_le _⟩ rfl ?_
  refine g_ifB_ne (t := 20) (q := 10) C dX4_foresee_7 (by decide) rfl (fun c_7 => ?_) (fun c_7 => ?_)
  · skip
    have f_7 : inR 1 60 d = true := c_7
    refine g_iload_n (q := 21) C dX4_foresee_20 rfl rfl ?_
    refine g_iconst (q := 22) (0) C dX4_foresee_21 (by decide) rfl ?_
    refine g_bipush (q := 24) (9) C dX4_foresee_22 (by decide) rfl ?_
    refine g_callS3P (q := 27) C hy_X4_isWithin (c_X4_isWithin Γ l dmp 0 9) qw_256 ⟨Nat.le_of_ble_eq_true rfl, Nat.le_of_ble_eq_true rfl⟩ (Nat.le_of_ble_eq_true rfl) rfl dX4_foresee_24 ⟨rfl, rfl⟩ ⟨Nat.zero_le _, Nat.zero_le _⟩ rfl ?_
    refine g_ifB_ne (t := 40) (q := 30) C dX4_foresee_27 (by decide) rfl (fun c_27 => ?_) (fun c_27 => ?_)
    · skip
      have f_27 : inR 0 9 dmp = true := c_27
      refine g_iload_n (q := 41) C dX4_foresee_40 rfl rfl ?_
      refine g_iconst (q := 42) (3) C dX4_foresee_41 (by decide) rfl ?_
      refine g_icmp_eq (t := 61) (q := 45) C dX4_foresee_42 (by decide) rfl (fun c_42 => ?_) (fun c_42 => ?_)
      · skip
        have f_42 : w = 3 := c_42
        refine g_aload_n (q := 62) C dX4_foresee_61 rfl (by first | exact hRef_r _ | exact hRef_o _ | exact hRef_n) rfl ?_
        refine g_get (q := 65) C hcl_X4 3 (by decide) qw_119 rfl dX4_foresee_62 (by exact pL) rfl rfl ?_
        refine g_aload_n (q := 66) C dX4_foresee_65 rfl (by first | exact hRef_r _ | exact hRef_o _ | exact hRef_n) rfl ?_
        refine g_get (q := 69) C hcl_X4 2 (by decide) qw_118 rfl dX4_foresee_66 (by exact pL) rfl rfl ?_
        refine g_callV1V (q := 72) C hy_X3_copyAllOf (c_X3_copyAllOf Γ l pRs2 pF2 pRs pF (fun i j hi hj q => nHK j i hj hi q.symm)) qw_442 (by exact pRs2.2.choose_spec.choose_spec.1) rfl ⟨Nat.le_of_ble_eq_true rfl, Nat.le_of_ble_eq_true rfl⟩ (Nat.le_of_ble_eq_true rfl) rfl dX4_foresee_69 ⟨rfl, rfl⟩ ⟨Nat.zero_le _, Nat.zero_le _⟩ rfl (fun M_69 p_69 => ?_)
        obtain ⟨hF1, ho1⟩ := p_69
        obtain ⟨hL1, hK1⟩ := hL.trial pF2 hF1 ho1
        obtain ⟨dn_, hdn, rfl⟩ := inR_nI f_7 (by decide) (N := 60) rfl
        refine g_aload_n (q := 73) C dX4_foresee_72 rfl (by first | exact hRef_r _ | exact hRef_o _ | exact hRef_n) rfl ?_
        refine g_get (q := 76) C hcl_X4 3 (by decide) qw_119 rfl dX4_foresee_73 (by exact hL1.1) rfl rfl ?_
        refine g_iload_n (q := 77) C dX4_foresee_76 rfl rfl ?_
        refine g_aload_n (q := 78) C dX4_foresee_77 rfl (by first | exact hRef_r _ | exact hRef_o _ | exact hRef_n) rfl ?_
        refine g_get (q := 81) C hcl_X4 4 (by decide) qw_120 rfl dX4_foresee_78 (by exact hL1.1) rfl rfl ?_
        refine g_iload_n (q := 82) C dX4_foresee_81 rfl rfl ?_
        refine g_callV3V (q := 85) C hy_X3_letDaysGo (c_X3_letDaysGo Γ l (sWin S) dmp hL1.2.2.2.2.2.2.2.1.1 hF1 (hbF.of2 hL1 hRV hI.lt) (show dn_ < 1000 by omega)) qw_333 (by exact hL1.2.2.2.2.2.2.2.1.1.2.choose_spec.choose_spec.1) rfl ⟨Nat.le_of_ble_eq_true rfl, Nat.le_of_ble_eq_true rfl⟩ (Nat.le_of_ble_eq_true rfl) rfl dX4_foresee_82 ⟨rfl, rfl⟩ ⟨Nat.zero_le _, Nat.zero_le _⟩ rfl (fun M_82 p_82 => ?_)
        obtain ⟨⟨FS3, hF3⟩, ho3⟩ := p_82
        obtain ⟨hL3, hK3⟩ := hL1.trial hF1 hF3 ho3
        refine g_iload_n (q := 86) C dX4_foresee_85 rfl rfl ?_
        refine g_iconst (q := 87) (3) C dX4_foresee_86 (by decide) rfl ?_
        refine g_icmp_ne (t := 100) (q := 90) C dX4_foresee_87 (by decide) rfl (fun c_87 => ?_) (fun c_87 => ?_)
        · skip
          have f_87 : ¬ w = 3 := c_87
          refine g_aload_n (q := 101) C dX4_foresee_100 rfl (by first | exact hRef_r _ | exact hRef_o _ | exact hRef_n) rfl ?_
          refine g_get (q := 104) C hcl_X4 3 (by decide) qw_119 rfl dX4_foresee_101 (by exact hL3.1) rfl rfl ?_
          refine g_callV0P (q := 107) C hy_X3_sumOfWetness (c_X3_sumOfWetness Γ l hL3.2.2.2.2.2.2.2.1.1 hF3) qw_432 (by exact hL3.2.2.2.2.2.2.2.1.1.2.choose_spec.choose_spec.1) rfl ⟨Nat.le_of_ble_eq_true rfl, Nat.le_of_ble_eq_true rfl⟩ (Nat.le_of_ble_eq_true rfl) rfl dX4_foresee_104 ⟨rfl, rfl⟩ ⟨Nat.zero_le _, Nat.zero_le _⟩ rfl ?_
          exact g_x (g_iret C dX4_foresee_107 (by first | exact absurd f_42 f_87 | exact absurd f_87 f_42 | (have e_ : sFore S (nI dn_) dmp w = (0, hIt (fBad (vDays (sE S) (sL S) (sWin S) dmp (sB S) dn_)) 0 40) := (by simp [sFore, sAft, show hNo (nI dn_) = dn_ from nI_clamp (by omega), f_7, f_27, f_42, f_87]); rw [e_]; exact ⟨rfl, RelV.bad (hL1.days hI hRV hI.lt (sWin S) dmp dn_), hL3.P, (hK1.tr hK3).c1⟩) | (have e_ : sFore S (nI dn_) dmp w = (0, hIt (fSum (vDays (sE S) (sL S) (sWin S) dmp (sB S) dn_)) 0 40) := (by simp [sFore, sAft, show hNo (nI dn_) = dn_ from nI_clamp (by omega), f_7, f_27, f_42, f_87]); rw [e_]; exact ⟨rfl, RelV.sum (hL1.days hI hRV hI.lt (sWin S) dmp dn_), hL3.P, (hK1.tr hK3).c1⟩)) (Nat.zero_le _) (Nat.zero_le _))
        · skip
          have f_87 : w = 3 := c_87
          refine g_aload_n (q := 91) C dX4_foresee_90 rfl (by first | exact hRef_r _ | exact hRef_o _ | exact hRef_n) rfl ?_
          refine g_get (q := 94) C hcl_X4 3 (by decide) qw_119 rfl dX4_foresee_91 (by exact hL3.1) rfl rfl ?_
          refine g_callV0P (q := 97) C hy_X3_mouldyBundles (c_X3_mouldyBundles Γ l hL3.2.2.2.2.2.2.2.1.1 hF3) qw_363 (by exact hL3.2.2.2.2.2.2.2.1.1.2.choose_spec.choose_spec.1) rfl ⟨Nat.le_of_ble_eq_true rfl, Nat.le_of_ble_eq_true rfl⟩ (Nat.le_of_ble_eq_true rfl) rfl dX4_foresee_94 ⟨rfl, rfl⟩ ⟨Nat.zero_le _, Nat.zero_le _⟩ rfl ?_
          refine g_goto (t := 107) C dX4_foresee_97 (by decide) ?_
          exact g_x (g_iret C dX4_foresee_107 (by first | exact absurd f_42 f_87 | exact absurd f_87 f_42 | (have e_ : sFore S (nI dn_) dmp w = (0, hIt (fBad (vDays (sE S) (sL S) (sWin S) dmp (sB S) dn_)) 0 40) := (by simp [sFore, sAft, show hNo (nI dn_) = dn_ from nI_clamp (by omega), f_7, f_27, f_42, f_87]); rw [e_]; exact ⟨rfl, RelV.bad (hL1.days hI hRV hI.lt (sWin S) dmp dn_), hL3.P, (hK1.tr hK3).c1⟩) | (have e_ : sFore S (nI dn_) dmp w = (0, hIt (fSum (vDays (sE S) (sL S) (sWin S) dmp (sB S) dn_)) 0 40) := (by simp [sFore, sAft, show hNo (nI dn_) = dn_ from nI_clamp (by omega), f_7, f_27, f_42, f_87]); rw [e_]; exact ⟨rfl, RelV.sum (hL1.days hI hRV hI.lt (sWin S) dmp dn_), hL3.P, (hK1.tr hK3).c1⟩)) (Nat.zero_le _) (Nat.zero_le _))
      · skip
        have f_42 : ¬ w = 3 := c_42
        refine g_iload_n (q := 46) C dX4_foresee_45 rfl rfl ?_
        refine g_bipush (q := 48) (8) C dX4_foresee_46 (by decide) rfl ?_
        refine g_icmp_eq (t := 61) (q := 51) C dX4_foresee_48 (by decide) rfl (fun c_48 => ?_) (fun c_48 => ?_)
        · skip
          have f_48 : w = 8 := c_48
          refine g_aload_n (q := 62) C dX4_foresee_61 rfl (by first | exact hRef_r _ | exact hRef_o _ | exact hRef_n) rfl ?_
          refine g_get (q := 65) C hcl_X4 3 (by decide) qw_119 rfl dX4_foresee_62 (by exact pL) rfl rfl ?_
          refine g_aload_n (q := 66) C dX4_foresee_65 rfl (by first | exact hRef_r _ | exact hRef_o _ | exact hRef_n) rfl ?_
          refine g_get (q := 69) C hcl_X4 2 (by decide) qw_118 rfl dX4_foresee_66 (by exact pL) rfl rfl ?_
          refine g_callV1V (q := 72) C hy_X3_copyAllOf (c_X3_copyAllOf Γ l pRs2 pF2 pRs pF (fun i j hi hj q => nHK j i hj hi q.symm)) qw_442 (by exact pRs2.2.choose_spec.choose_spec.1) rfl ⟨Nat.le_of_ble_eq_true rfl, Nat.le_of_ble_eq_true rfl⟩ (Nat.le_of_ble_eq_true rfl) rfl dX4_foresee_69 ⟨rfl, rfl⟩ ⟨Nat.zero_le _, Nat.zero_le _⟩ rfl (fun M_69 p_69 => ?_)
          obtain ⟨hF1, ho1⟩ := p_69
          obtain ⟨hL1, hK1⟩ := hL.trial pF2 hF1 ho1
          obtain ⟨dn_, hdn, rfl⟩ := inR_nI f_7 (by decide) (N := 60) rfl
          refine g_aload_n (q := 73) C dX4_foresee_72 rfl (by first | exact hRef_r _ | exact hRef_o _ | exact hRef_n) rfl ?_
          refine g_get (q := 76) C hcl_X4 3 (by decide) qw_119 rfl dX4_foresee_73 (by exact hL1.1) rfl rfl ?_
          refine g_iload_n (q := 77) C dX4_foresee_76 rfl rfl ?_
          refine g_aload_n (q := 78) C dX4_foresee_77 rfl (by first | exact hRef_r _ | exact hRef_o _ | exact hRef_n) rfl ?_
          refine g_get (q := 81) C hcl_X4 4 (by decide) qw_120 rfl dX4_foresee_78 (by exact hL1.1) rfl rfl ?_
          refine g_iload_n (q := 82) C dX4_foresee_81 rfl rfl ?_
          refine g_callV3V (q := 85) C hy_X3_letDaysGo (c_X3_letDaysGo Γ l (sWin S) dmp hL1.2.2.2.2.2.2.2.1.1 hF1 (hbF.of2 hL1 hRV hI.lt) (show dn_ < 1000 by omega)) qw_333 (by exact hL1.2.2.2.2.2.2.2.1.1.2.choose_spec.choose_spec.1) rfl ⟨Nat.le_of_ble_eq_true rfl, Nat.le_of_ble_eq_true rfl⟩ (Nat.le_of_ble_eq_true rfl) rfl dX4_foresee_82 ⟨rfl, rfl⟩ ⟨Nat.zero_le _, Nat.zero_le _⟩ rfl (fun M_82 p_82 => ?_)
          obtain ⟨⟨FS3, hF3⟩, ho3⟩ := p_82
          obtain ⟨hL3, hK3⟩ := hL1.trial hF1 hF3 ho3
          refine g_iload_n (q := 86) C dX4_foresee_85 rfl rfl ?_
          refine g_iconst (q := 87) (3) C dX4_foresee_86 (by decide) rfl ?_
          refine g_icmp_ne (t := 100) (q := 90) C dX4_foresee_87 (by decide) rfl (fun c_87 => ?_) (fun c_87 => ?_)
          · skip
            have f_87 : ¬ w = 3 := c_87
            refine g_aload_n (q := 101) C dX4_foresee_100 rfl (by first | exact hRef_r _ | exact hRef_o _ | exact hRef_n) rfl ?_
            refine g_get (q := 104) C hcl_X4 3 (by decide) qw_119 rfl dX4_foresee_101 (by exact hL3.1) rfl rfl ?_
            refine g_callV0P (q := 107) C hy_X3_sumOfWetness (c_X3_sumOfWetness Γ l hL3.2.2.2.2.2.2.2.1.1 hF3) qw_432 (by exact hL3.2.2.2.2.2.2.2.1.1.2.choose_spec.choose_spec.1) rfl ⟨Nat.le_of_ble_eq_true rfl, Nat.le_of_ble_eq_true rfl⟩ (Nat.le_of_ble_eq_true rfl) rfl dX4_foresee_104 ⟨rfl, rfl⟩ ⟨Nat.zero_le _, Nat.zero_le _⟩ rfl ?_
            exact g_x (g_iret C dX4_foresee_107 (by first | exact absurd f_42 f_87 | exact absurd f_87 f_42 | (have e_ : sFore S (nI dn_) dmp w = (0, hIt (fBad (vDays (sE S) (sL S) (sWin S) dmp (sB S) dn_)) 0 40) := (by simp [sFore, sAft, show hNo (nI dn_) = dn_ from nI_clamp (by omega), f_7, f_27, f_42, f_48, f_87]); rw [e_]; exact ⟨rfl, RelV.bad (hL1.days hI hRV hI.lt (sWin S) dmp dn_), hL3.P, (hK1.tr hK3).c1⟩) | (have e_ : sFore S (nI dn_) dmp w = (0, hIt (fSum (vDays (sE S) (sL S) (sWin S) dmp (sB S) dn_)) 0 40) := (by simp [sFore, sAft, show hNo (nI dn_) = dn_ from nI_clamp (by omega), f_7, f_27, f_42, f_48, f_87]); rw [e_]; exact ⟨rfl, RelV.sum (hL1.days hI hRV hI.lt (sWin S) dmp dn_), hL3.P, (hK1.tr hK3).c1⟩)) (Nat.zero_le _) (Nat.zero_le _))
          · skip
            have f_87 : w = 3 := c_87
            refine g_aload_n (q := 91) C dX4_foresee_90 rfl (by first | exact hRef_r _ | exact hRef_o _ | exact hRef_n) rfl ?_
            refine g_get (q := 94) C hcl_X4 3 (by decide) qw_119 rfl dX4_foresee_91 (by exact hL3.1) rfl rfl ?_
            refine g_callV0P (q := 97) C hy_X3_mouldyBundles (c_X3_mouldyBundles Γ l hL3.2.2.2.2.2.2.2.1.1 hF3) qw_363 (by exact hL3.2.2.2.2.2.2.2.1.1.2.choose_spec.choose_spec.1) rfl ⟨Nat.le_of_ble_eq_true rfl, Nat.le_of_ble_eq_true rfl⟩ (Nat.le_of_ble_eq_true rfl) rfl dX4_foresee_94 ⟨rfl, rfl⟩ ⟨Nat.zero_le _, Nat.zero_le _⟩ rfl ?_
            refine g_goto (t := 107) C dX4_foresee_97 (by decide) ?_
            exact g_x (g_iret C dX4_foresee_107 (by first | exact absurd f_42 f_87 | exact absurd f_87 f_42 | (have e_ : sFore S (nI dn_) dmp w = (0, hIt (fBad (vDays (sE S) (sL S) (sWin S) dmp (sB S) dn_)) 0 40) := (by simp [sFore, sAft, show hNo (nI dn_) = dn_ from nI_clamp (by omega), f_7, f_27, f_42, f_48, f_87]); rw [e_]; exact ⟨rfl, RelV.bad (hL1.days hI hRV hI.lt (sWin S) dmp dn_), hL3.P, (hK1.tr hK3).c1⟩) | (have e_ : sFore S (nI dn_) dmp w = (0, hIt (fSum (vDays (sE S) (sL S) (sWin S) dmp (sB S) dn_)) 0 40) := (by simp [sFore, sAft, show hNo (nI dn_) = dn_ from nI_clamp (by omega), f_7, f_27, f_42, f_48, f_87]); rw [e_]; exact ⟨rfl, RelV.sum (hL1.days hI hRV hI.lt (sWin S) dmp dn_), hL3.P, (hK1.tr hK3).c1⟩)) (Nat.zero_le _) (Nat.zero_le _))
        · skip
          have f_48 : ¬ w = 8 := c_48
          exact g_throwS C hl hno hThr_IOB hs_214 ⟨1, by simp [sFore, f_7, f_27, f_42, f_48], rfl⟩ rfl dX4_foresee_51 dX4_foresee_54 dX4_foresee_55 dX4_foresee_57 dX4_foresee_60 (by decide) (by decide) (by decide) (by decide) (by decide) (by decide)
    · skip
      have f_27 : inR 0 9 dmp = false := c_27
      exact g_throwS C hl hno hThr_IAE hs_147 ⟨0, by simp [sFore, f_7, f_27], rfl⟩ rfl dX4_foresee_30 dX4_foresee_33 dX4_foresee_34 dX4_foresee_36 dX4_foresee_39 (by decide) (by decide) (by decide) (by decide) (by decide) (by decide)
  · skip
    have f_7 : inR 1 60 d = false := c_7
    exact g_throwS C hl hno hThr_IAE hs_145 ⟨0, by simp [sFore, f_7], rfl⟩ rfl dX4_foresee_10 dX4_foresee_13 dX4_foresee_14 dX4_foresee_16 dX4_foresee_19 (by decide) (by decide) (by decide) (by decide) (by decide) (by decide)
