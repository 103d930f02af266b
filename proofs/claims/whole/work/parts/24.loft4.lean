set_option maxRecDepth 100000 in
set_option maxHeartbeats 4000000 in
theorem c_X4_scoreOfTrialBehind (Γ : hGam) (l : Launch) {M : hM} {x : Nat} {S : hS} {hl9 ol rk tr edh edo : Nat} {hb ob hk hk2 : Nat → Nat} {V V2 : Nat → hB} {g0 : Nat → Option Nat} {B : Nat → hB} {dn : Nat} (dmp : Int32) (hL : ltQ Γ M x S hl9 ol rk tr edh edo hb ob hk hk2 V V2 g0) (hI : sInv S) (hR : RelV hb V2 B) (hB : ∀ i, i < 40 → ∀ j, (B i).1 = some j → j < sN S) (hdn : dn < 1000) : hMet Γ l yX4_scoreOfTrialBehind cX4_scoreOfTrialBehind 3 (some .int) rm_X4_scoreOfTrialBehind [.ref x, .int (nI dn), .int dmp] M (hpI (fun a M1 => a = scor (vDays (sE S) (sL S) (sWin S) dmp B dn) ∧ ∃ V3, ltQ Γ M1 x S hl9 ol rk tr edh edo hb ob hk hk2 V V3 g0 ∧ hKp noHk M M1)) := by
  obtain ⟨pRs2, FS2, pF2⟩ := hL.2.2.2.2.2.2.2.1
  refine hMet_of (by decide +kernel) (Nat.le_of_ble_eq_true rfl) (hCat_cons rfl (hCat_cons rfl (hCat_cons rfl hCat_nil))) (fun k C => ?_)
  show hG _ _ _ _ _ _ _ _ [some (.ref x), some (.int (nI dn)), some (.int dmp)] _
  refine g_aload_n (q := 1) C dX4_scoreOfTrialBehind_0 rfl (by first | exact hRef_r _ | exact hRef_o _ | exact hRef_n) rfl ?_
  refine g_get (q := 4) C hcl_X4 3 (by decide) qw_136 rfl dX4_scoreOfTrialBehind_1 (by exact hL.1) rfl rfl ?_
  refine g_iload_n (q := 5) C dX4_scoreOfTrialBehind_4 rfl rfl ?_
  refine g_aload_n (q := 6) C dX4_scoreOfTrialBehind_5 rfl (by first | exact hRef_r _ | exact hRef_o _ | exact hRef_n) rfl ?_
  refine g_get (q := 9) C hcl_X4 4 (by decide) qw_137 rfl dX4_scoreOfTrialBehind_6 (by exact hL.1) rfl rfl ?_
  refine g_iload_n (q := 10) C dX4_scoreOfTrialBehind_9 rfl rfl ?_
  refine g_callV3V (q := 13) C hy_X3_letDaysGo (c_X3_letDaysGo Γ l (sWin S) dmp pRs2 pF2 (hbF.of2 hL hR hB) hdn) qw_605 (by exact hL.2.2.2.2.2.2.2.1.1.2.choose_spec.choose_spec.1) rfl ⟨Nat.le_of_ble_eq_true rfl, Nat.le_of_ble_eq_true rfl⟩ (Nat.le_of_ble_eq_true rfl) rfl dX4_scoreOfTrialBehind_10 ⟨rfl, rfl⟩ ⟨Nat.zero_le _, Nat.zero_le _⟩ rfl (fun M_10 p_10 => ?_)
  obtain ⟨⟨FS1, hF1⟩, ho⟩ := p_10
  obtain ⟨hL1, hK1⟩ := hL.trial pF2 hF1 ho
  refine g_aload_n (q := 14) C dX4_scoreOfTrialBehind_13 rfl (by first | exact hRef_r _ | exact hRef_o _ | exact hRef_n) rfl ?_
  refine g_get (q := 17) C hcl_X4 3 (by decide) qw_136 rfl dX4_scoreOfTrialBehind_14 (by exact hL1.1) rfl rfl ?_
  refine g_callV0P (q := 20) C hy_X3_mouldyBundles (c_X3_mouldyBundles Γ l hL1.2.2.2.2.2.2.2.1.1 hF1) qw_237 (by exact hL1.2.2.2.2.2.2.2.1.1.2.choose_spec.choose_spec.1) rfl ⟨Nat.le_of_ble_eq_true rfl, Nat.le_of_ble_eq_true rfl⟩ (Nat.le_of_ble_eq_true rfl) rfl dX4_scoreOfTrialBehind_17 ⟨rfl, rfl⟩ ⟨Nat.zero_le _, Nat.zero_le _⟩ rfl ?_
  refine g_sipush (q := 23) (10000) C dX4_scoreOfTrialBehind_20 (by decide) rfl ?_
  refine g_imul (q := 24) C dX4_scoreOfTrialBehind_23 rfl ?_
  refine g_aload_n (q := 25) C dX4_scoreOfTrialBehind_24 rfl (by first | exact hRef_r _ | exact hRef_o _ | exact hRef_n) rfl ?_
  refine g_get (q := 28) C hcl_X4 3 (by decide) qw_136 rfl dX4_scoreOfTrialBehind_25 (by exact hL1.1) rfl rfl ?_
  refine g_callV0P (q := 31) C hy_X3_sumOfWetness (c_X3_sumOfWetness Γ l hL1.2.2.2.2.2.2.2.1.1 hF1) qw_222 (by exact hL1.2.2.2.2.2.2.2.1.1.2.choose_spec.choose_spec.1) rfl ⟨Nat.le_of_ble_eq_true rfl, Nat.le_of_ble_eq_true rfl⟩ (Nat.le_of_ble_eq_true rfl) rfl dX4_scoreOfTrialBehind_28 ⟨rfl, rfl⟩ ⟨Nat.zero_le _, Nat.zero_le _⟩ rfl ?_
  refine g_iadd (q := 32) C dX4_scoreOfTrialBehind_31 rfl ?_
  exact g_iret C dX4_scoreOfTrialBehind_32 (⟨RelV.scoe (hL.days hI hR hB (sWin S) dmp dn), _, hL1, hK1⟩) (Nat.zero_le _) (Nat.zero_le _)
set_option maxRecDepth 100000 in
set_option maxHeartbeats 4000000 in
theorem c_X4_foresee (Γ : hGam) (l : Launch) {M : hM} {x : Nat} {S : hS} (d dmp w : Int32) (hl : l.stackTraces = false) (hL0 : ltP Γ M x S) (hI : sInv S) : hMetX Γ l yX4_foresee cX4_foresee 4 (some .int) rm_X4_foresee [.ref x, .int d, .int dmp, .int w] M (hpI (fun a M1 => (sFore S d dmp w).1 = 0 ∧ a = (sFore S d dmp w).2 ∧ ltP Γ M1 x S ∧ hKp noCls M M1)) (thrN [eIAE, eIOB] (sFore S d dmp w).1) := by
  obtain ⟨hl9, ol, rk, tr, edh, edo, hb, ob, hk, hk2, V, V2, g0, hL⟩ := hL0
  have hLc := hL
  obtain ⟨pL, pT, pH, pO, nHO, nED, pR, pR2, nHK, hRV⟩ := hLc
  obtain ⟨pRs, FS, pF⟩ := pR
  obtain ⟨pRs2, FS2, pF2⟩ := pR2
  refine hMetX_of (by decide +kernel) (Nat.le_of_ble_eq_true rfl) (hCat_cons rfl (hCat_cons rfl (hCat_cons rfl (hCat_cons rfl hCat_nil)))) (fun k C hno => ?_)
  show hG _ _ _ _ _ _ _ _ [some (.ref x), some (.int d), some (.int dmp), some (.int w)] _
  refine g_iload_n (q := 1) C dX4_foresee_0 rfl rfl ?_
  refine g_iconst (q := 2) (1) C dX4_foresee_1 (by decide) rfl ?_
  refine g_bipush (q := 4) (60) C dX4_foresee_2 (by decide) rfl ?_
  refine g_callS3P (q := 7) C hy_X4_isWithin (c_X4_isWithin Γ l d 1 60) qw_361 ⟨Nat.le_of_ble_eq_true rfl, Nat.le_of_ble_eq_true rfl⟩ (Nat.le_of_ble_eq_true rfl) rfl dX4_foresee_4 ⟨rfl, rfl⟩ ⟨Nat.zero_le _, Nat.zero_le _⟩ rfl ?_
  refine g_ifB_ne (t := 20) (q := 10) C dX4_foresee_7 (by decide) rfl (fun c_7 => ?_) (fun c_7 => ?_)
  · skip
    have f_7 : inR 1 60 d = true := c_7
    refine g_iload_n (q := 21) C dX4_foresee_20 rfl rfl ?_
    refine g_iconst (q := 22) (0) C dX4_foresee_21 (by decide) rfl ?_
    refine g_bipush (q := 24) (9) C dX4_foresee_22 (by decide) rfl ?_
    refine g_callS3P (q := 27) C hy_X4_isWithin (c_X4_isWithin Γ l dmp 0 9) qw_361 ⟨Nat.le_of_ble_eq_true rfl, Nat.le_of_ble_eq_true rfl⟩ (Nat.le_of_ble_eq_true rfl) rfl dX4_foresee_24 ⟨rfl, rfl⟩ ⟨Nat.zero_le _, Nat.zero_le _⟩ rfl ?_
    refine g_ifB_ne (t := 40) (q := 30) C dX4_foresee_27 (by decide) rfl (fun c_27 => ?_) (fun c_27 => ?_)
    · skip
      have f_27 : inR 0 9 dmp = true := c_27
      refine g_iload_n (q := 41) C dX4_foresee_40 rfl rfl ?_
      refine g_iconst (q := 42) (3) C dX4_foresee_41 (by decide) rfl ?_
      refine g_icmp_eq (t := 61) (q := 45) C dX4_foresee_42 (by decide) rfl (fun c_42 => ?_) (fun c_42 => ?_)
      · skip
        have f_42 : w = 3 := c_42
        refine g_aload_n (q := 62) C dX4_foresee_61 rfl (by first | exact hRef_r _ | exact hRef_o _ | exact hRef_n) rfl ?_
        refine g_get (q := 65) C hcl_X4 3 (by decide) qw_136 rfl dX4_foresee_62 (by exact pL) rfl rfl ?_
        refine g_aload_n (q := 66) C dX4_foresee_65 rfl (by first | exact hRef_r _ | exact hRef_o _ | exact hRef_n) rfl ?_
        refine g_get (q := 69) C hcl_X4 2 (by decide) qw_135 rfl dX4_foresee_66 (by exact pL) rfl rfl ?_
        refine g_callV1V (q := 72) C hy_X3_copyAllOf (c_X3_copyAllOf Γ l pRs2 pF2 pRs pF (fun i j hi hj q => nHK j i hj hi q.symm)) qw_646 (by exact pRs2.2.choose_spec.choose_spec.1) rfl ⟨Nat.le_of_ble_eq_true rfl, Nat.le_of_ble_eq_true rfl⟩ (Nat.le_of_ble_eq_true rfl) rfl dX4_foresee_69 ⟨rfl, rfl⟩ ⟨Nat.zero_le _, Nat.zero_le _⟩ rfl (fun M_69 p_69 => ?_)
        obtain ⟨hF1, ho1⟩ := p_69
        obtain ⟨hL1, hK1⟩ := hL.trial pF2 hF1 ho1
        obtain ⟨dn_, hdn, rfl⟩ := inR_nI f_7 (by decide) (N := 60) rfl
        refine g_aload_n (q := 73) C dX4_foresee_72 rfl (by first | exact hRef_r _ | exact hRef_o _ | exact hRef_n) rfl ?_
        refine g_get (q := 76) C hcl_X4 3 (by decide) qw_136 rfl dX4_foresee_73 (by exact hL1.1) rfl rfl ?_
        refine g_iload_n (q := 77) C dX4_foresee_76 rfl rfl ?_
        refine g_aload_n (q := 78) C dX4_foresee_77 rfl (by first | exact hRef_r _ | exact hRef_o _ | exact hRef_n) rfl ?_
        refine g_get (q := 81) C hcl_X4 4 (by decide) qw_137 rfl dX4_foresee_78 (by exact hL1.1) rfl rfl ?_
        refine g_iload_n (q := 82) C dX4_foresee_81 rfl rfl ?_
        refine g_callV3V (q := 85) C hy_X3_letDaysGo (c_X3_letDaysGo Γ l (sWin S) dmp hL1.2.2.2.2.2.2.2.1.1 hF1 (hbF.of2 hL1 hRV hI.lt) (show dn_ < 1000 by omega)) qw_605 (by exact hL1.2.2.2.2.2.2.2.1.1.2.choose_spec.choose_spec.1) rfl ⟨Nat.le_of_ble_eq_true rfl, Nat.le_of_ble_eq_true rfl⟩ (Nat.le_of_ble_eq_true rfl) rfl dX4_foresee_82 ⟨rfl, rfl⟩ ⟨Nat.zero_le _, Nat.zero_le _⟩ rfl (fun M_82 p_82 => ?_)
        obtain ⟨⟨FS3, hF3⟩, ho3⟩ := p_82
        obtain ⟨hL3, hK3⟩ := hL1.trial hF1 hF3 ho3
        refine g_iload_n (q := 86) C dX4_foresee_85 rfl rfl ?_
        refine g_iconst (q := 87) (3) C dX4_foresee_86 (by decide) rfl ?_
        refine g_icmp_ne (t := 100) (q := 90) C dX4_foresee_87 (by decide) rfl (fun c_87 => ?_) (fun c_87 => ?_)
        · skip
          have f_87 : ¬ w = 3 := c_87
          refine g_aload_n (q := 101) C dX4_foresee_100 rfl (by first | exact hRef_r _ | exact hRef_o _ | exact hRef_n) rfl ?_
          refine g_get (q := 104) C hcl_X4 3 (by decide) qw_136 rfl dX4_foresee_101 (by exact hL3.1) rfl rfl ?_
          refine g_callV0P (q := 107) C hy_X3_sumOfWetness (c_X3_sumOfWetness Γ l hL3.2.2.2.2.2.2.2.1.1 hF3) qw_222 (by exact hL3.2.2.2.2.2.2.2.1.1.2.choose_spec.choose_spec.1) rfl ⟨Nat.le_of_ble_eq_true rfl, Nat.le_of_ble_eq_true rfl⟩ (Nat.le_of_ble_eq_true rfl) rfl dX4_foresee_104 ⟨rfl, rfl⟩ ⟨Nat.zero_le _, Nat.zero_le _⟩ rfl ?_
          exact g_x (g_iret C dX4_foresee_107 (by first | exact absurd f_42 f_87 | exact absurd f_87 f_42 | (have e_ : sFore S (nI dn_) dmp w = (0, hIt (fBad (vDays (sE S) (sL S) (sWin S) dmp (sB S) dn_)) 0 40) := (by simp [sFore, sAft, show hNo (nI dn_) = dn_ from nI_clamp (by omega), f_7, f_27, f_42, f_87]); rw [e_]; exact ⟨rfl, RelV.bad (hL1.days hI hRV hI.lt (sWin S) dmp dn_), hL3.P, (hK1.tr hK3).c1⟩) | (have e_ : sFore S (nI dn_) dmp w = (0, hIt (fSum (vDays (sE S) (sL S) (sWin S) dmp (sB S) dn_)) 0 40) := (by simp [sFore, sAft, show hNo (nI dn_) = dn_ from nI_clamp (by omega), f_7, f_27, f_42, f_87]); rw [e_]; exact ⟨rfl, RelV.sum (hL1.days hI hRV hI.lt (sWin S) dmp dn_), hL3.P, (hK1.tr hK3).c1⟩)) (Nat.zero_le _) (Nat.zero_le _))
        · skip
          have f_87 : w = 3 := c_87
          refine g_aload_n (q := 91) C dX4_foresee_90 rfl (by first | exact hRef_r _ | exact hRef_o _ | exact hRef_n) rfl ?_
          refine g_get (q := 94) C hcl_X4 3 (by decide) qw_136 rfl dX4_foresee_91 (by exact hL3.1) rfl rfl ?_
          refine g_callV0P (q := 97) C hy_X3_mouldyBundles (c_X3_mouldyBundles Γ l hL3.2.2.2.2.2.2.2.1.1 hF3) qw_237 (by exact hL3.2.2.2.2.2.2.2.1.1.2.choose_spec.choose_spec.1) rfl ⟨Nat.le_of_ble_eq_true rfl, Nat.le_of_ble_eq_true rfl⟩ (Nat.le_of_ble_eq_true rfl) rfl dX4_foresee_94 ⟨rfl, rfl⟩ ⟨Nat.zero_le _, Nat.zero_le _⟩ rfl ?_
          refine g_goto (t := 107) C dX4_foresee_97 (by decide) ?_
          exact g_x (g_iret C dX4_foresee_107 (by first | exact absurd f_42 f_87 | exact absurd f_87 f_42 | (have e_ : sFore S (nI dn_) dmp w = (0, hIt (fBad (vDays (sE S) (sL S) (sWin S) dmp (sB S) dn_)) 0 40) := (by simp [sFore, sAft, show hNo (nI dn_) = dn_ from nI_clamp (by omega), f_7, f_27, f_42, f_87]); rw [e_]; exact ⟨rfl, RelV.bad (hL1.days hI hRV hI.lt (sWin S) dmp dn_), hL3.P, (hK1.tr hK3).c1⟩) | (have e_ : sFore S (nI dn_) dmp w = (0, hIt (fSum (vDays (sE S) (sL S) (sWin S) dmp (sB S) dn_)) 0 40) := (by simp [sFore, sAft, show hNo (nI dn_) = dn_ from nI_clamp (by omega), f_7, f_27, f_42, f_87]); rw [e_]; exact ⟨rfl, RelV.sum (hL1.days hI hRV hI.lt (sWin S) dmp dn_), hL3.P, (hK1.tr hK3).c1⟩)) (Nat.zero_le _) (Nat.zero_le _))
      · skip
        have f_42 : ¬ w = 3 := c_42
        refine g_iload_n (q := 46) C dX4_foresee_45 rfl rfl ?_
        refine g_bipush (q := 48) (8) C dX4_foresee_46 (by decide) rfl ?_
        refine g_icmp_eq (t := 61) (q := 51) C dX4_foresee_48 (by decide) rfl (fun c_48 => ?_) (fun c_48 => ?_)
        · skip
          have f_48 : w = 8 := c_48
          refine g_aload_n (q := 62) C dX4_foresee_61 rfl (by first | exact hRef_r _ | exact hRef_o _ | exact hRef_n) rfl ?_
          refine g_get (q := 65) C hcl_X4 3 (by decide) qw_136 rfl dX4_foresee_62 (by exact pL) rfl rfl ?_
          refine g_aload_n (q := 66) C dX4_foresee_65 rfl (by first | exact hRef_r _ | exact hRef_o _ | exact hRef_n) rfl ?_
          refine g_get (q := 69) C hcl_X4 2 (by decide) qw_135 rfl dX4_foresee_66 (by exact pL) rfl rfl ?_
          refine g_callV1V (q := 72) C hy_X3_copyAllOf (c_X3_copyAllOf Γ l pRs2 pF2 pRs pF (fun i j hi hj q => nHK j i hj hi q.symm)) qw_646 (by exact pRs2.2.choose_spec.choose_spec.1) rfl ⟨Nat.le_of_ble_eq_true rfl, Nat.le_of_ble_eq_true rfl⟩ (Nat.le_of_ble_eq_true rfl) rfl dX4_foresee_69 ⟨rfl, rfl⟩ ⟨Nat.zero_le _, Nat.zero_le _⟩ rfl (fun M_69 p_69 => ?_)
          obtain ⟨hF1, ho1⟩ := p_69
          obtain ⟨hL1, hK1⟩ := hL.trial pF2 hF1 ho1
          obtain ⟨dn_, hdn, rfl⟩ := inR_nI f_7 (by decide) (N := 60) rfl
          refine g_aload_n (q := 73) C dX4_foresee_72 rfl (by first | exact hRef_r _ | exact hRef_o _ | exact hRef_n) rfl ?_
          refine g_get (q := 76) C hcl_X4 3 (by decide) qw_136 rfl dX4_foresee_73 (by exact hL1.1) rfl rfl ?_
          refine g_iload_n (q := 77) C dX4_foresee_76 rfl rfl ?_
          refine g_aload_n (q := 78) C dX4_foresee_77 rfl (by first | exact hRef_r _ | exact hRef_o _ | exact hRef_n) rfl ?_
          refine g_get (q := 81) C hcl_X4 4 (by decide) qw_137 rfl dX4_foresee_78 (by exact hL1.1) rfl rfl ?_
          refine g_iload_n (q := 82) C dX4_foresee_81 rfl rfl ?_
          refine g_callV3V (q := 85) C hy_X3_letDaysGo (c_X3_letDaysGo Γ l (sWin S) dmp hL1.2.2.2.2.2.2.2.1.1 hF1 (hbF.of2 hL1 hRV hI.lt) (show dn_ < 1000 by omega)) qw_605 (by exact hL1.2.2.2.2.2.2.2.1.1.2.choose_spec.choose_spec.1) rfl ⟨Nat.le_of_ble_eq_true rfl, Nat.le_of_ble_eq_true rfl⟩ (Nat.le_of_ble_eq_true rfl) rfl dX4_foresee_82 ⟨rfl, rfl⟩ ⟨Nat.zero_le _, Nat.zero_le _⟩ rfl (fun M_82 p_82 => ?_)
          obtain ⟨⟨FS3, hF3⟩, ho3⟩ := p_82
          obtain ⟨hL3, hK3⟩ := hL1.trial hF1 hF3 ho3
          refine g_iload_n (q := 86) C dX4_foresee_85 rfl rfl ?_
          refine g_iconst (q := 87) (3) C dX4_foresee_86 (by decide) rfl ?_
          refine g_icmp_ne (t := 100) (q := 90) C dX4_foresee_87 (by decide) rfl (fun c_87 => ?_) (fun c_87 => ?_)
          · skip
            have f_87 : ¬ w = 3 := c_87
            refine g_aload_n (q := 101) C dX4_foresee_100 rfl (by first | exact hRef_r _ | exact hRef_o _ | exact hRef_n) rfl ?_
            refine g_get (q := 104) C hcl_X4 3 (by decide) qw_136 rfl dX4_foresee_101 (by exact hL3.1) rfl rfl ?_
            refine g_callV0P (q := 107) C hy_X3_sumOfWetness (c_X3_sumOfWetness Γ l hL3.2.2.2.2.2.2.2.1.1 hF3) qw_222 (by exact hL3.2.2.2.2.2.2.2.1.1.2.choose_spec.choose_spec.1) rfl ⟨Nat.le_of_ble_eq_true rfl, Nat.le_of_ble_eq_true rfl⟩ (Nat.le_of_ble_eq_true rfl) rfl dX4_foresee_104 ⟨rfl, rfl⟩ ⟨Nat.zero_le _, Nat.zero_le _⟩ rfl ?_
            exact g_x (g_iret C dX4_foresee_107 (by first | exact absurd f_42 f_87 | exact absurd f_87 f_42 | (have e_ : sFore S (nI dn_) dmp w = (0, hIt (fBad (vDays (sE S) (sL S) (sWin S) dmp (sB S) dn_)) 0 40) := (by simp [sFore, sAft, show hNo (nI dn_) = dn_ from nI_clamp (by omega), f_7, f_27, f_42, f_48, f_87]); rw [e_]; exact ⟨rfl, RelV.bad (hL1.days hI hRV hI.lt (sWin S) dmp dn_), hL3.P, (hK1.tr hK3).c1⟩) | (have e_ : sFore S (nI dn_) dmp w = (0, hIt (fSum (vDays (sE S) (sL S) (sWin S) dmp (sB S) dn_)) 0 40) := (by simp [sFore, sAft, show hNo (nI dn_) = dn_ from nI_clamp (by omega), f_7, f_27, f_42, f_48, f_87]); rw [e_]; exact ⟨rfl, RelV.sum (hL1.days hI hRV hI.lt (sWin S) dmp dn_), hL3.P, (hK1.tr hK3).c1⟩)) (Nat.zero_le _) (Nat.zero_le _))
          · skip
            have f_87 : w = 3 := c_87
            refine g_aload_n (q := 91) C dX4_foresee_90 rfl (by first | exact hRef_r _ | exact hRef_o _ | exact hRef_n) rfl ?_
            refine g_get (q := 94) C hcl_X4 3 (by decide) qw_136 rfl dX4_foresee_91 (by exact hL3.1) rfl rfl ?_
            refine g_callV0P (q := 97) C hy_X3_mouldyBundles (c_X3_mouldyBundles Γ l hL3.2.2.2.2.2.2.2.1.1 hF3) qw_237 (by exact hL3.2.2.2.2.2.2.2.1.1.2.choose_spec.choose_spec.1) rfl ⟨Nat.le_of_ble_eq_true rfl, Nat.le_of_ble_eq_true rfl⟩ (Nat.le_of_ble_eq_true rfl) rfl dX4_foresee_94 ⟨rfl, rfl⟩ ⟨Nat.zero_le _, Nat.zero_le _⟩ rfl ?_
            refine g_goto (t := 107) C dX4_foresee_97 (by decide) ?_
            exact g_x (g_iret C dX4_foresee_107 (by first | exact absurd f_42 f_87 | exact absurd f_87 f_42 | (have e_ : sFore S (nI dn_) dmp w = (0, hIt (fBad (vDays (sE S) (sL S) (sWin S) dmp (sB S) dn_)) 0 40) := (by simp [sFore, sAft, show hNo (nI dn_) = dn_ from nI_clamp (by omega), f_7, f_27, f_42, f_48, f_87]); rw [e_]; exact ⟨rfl, RelV.bad (hL1.days hI hRV hI.lt (sWin S) dmp dn_), hL3.P, (hK1.tr hK3).c1⟩) | (have e_ : sFore S (nI dn_) dmp w = (0, hIt (fSum (vDays (sE S) (sL S) (sWin S) dmp (sB S) dn_)) 0 40) := (by simp [sFore, sAft, show hNo (nI dn_) = dn_ from nI_clamp (by omega), f_7, f_27, f_42, f_48, f_87]); rw [e_]; exact ⟨rfl, RelV.sum (hL1.days hI hRV hI.lt (sWin S) dmp dn_), hL3.P, (hK1.tr hK3).c1⟩)) (Nat.zero_le _) (Nat.zero_le _))
        · skip
          have f_48 : ¬ w = 8 := c_48
          exact g_throwS C hl hno hThr_IOB hs_214 ⟨1, by simp [sFore, f_7, f_27, f_42, f_48], rfl⟩ rfl dX4_foresee_51 dX4_foresee_54 dX4_foresee_55 dX4_foresee_57 dX4_foresee_60 (by decide) (by decide) (by decide) (by decide) (by decide) (by decide)
    · skip
      have f_27 : inR 0 9 dmp = false := c_27
      exact g_throwS C hl hno hThr_IAE hs_147 ⟨0, by simp [sFore, f_7, f_27], rfl⟩ rfl dX4_foresee_30 dX4_foresee_33 dX4_foresee_34 dX4_foresee_36 dX4_foresee_39 (by decide) (by decide) (by decide) (by decide) (by decide) (by decide)
  · skip
    have f_7 : inR 1 60 d = false := c_7
    exact g_throwS C hl hno hThr_IAE hs_145 ⟨0, by simp [sFore, f_7], rfl⟩ rfl dX4_foresee_10 dX4_foresee_13 dX4_foresee_14 dX4_foresee_16 dX4_foresee_19 (by decide) (by decide) (by decide) (by decide) (by decide) (by decide)
set_option maxRecDepth 100000 in
set_option maxHeartbeats 4000000 in
theorem c_X4_until (Γ : hGam) (l : Launch) {M : hM} {x : Nat} {S : hS} (p q w dmp : Int32) (hl : l.stackTraces = false) (hL0 : ltP Γ M x S) (hI : sInv S) : hMetX Γ l yX4_until cX4_until 7 (some .int) rm_X4_until [.ref x, .int p, .int q, .int w, .int dmp] M (hpI (fun a M1 => (sUntil S p q w dmp).1 = 0 ∧ a = (sUntil S p q w dmp).2 ∧ ltP Γ M1 x S ∧ hKp noCls M M1)) (thrN [eIOB, eIAE] (sUntil S p q w dmp).1) := by
  obtain ⟨hl9, ol, rk, tr, edh, edo, hb, ob, hk, hk2, V, V2, g0, hL⟩ := hL0
  have hLc := hL
  obtain ⟨pL, pT, pH, pO, nHO, nED, pR, pR2, nHK, hRV⟩ := hLc
  obtain ⟨pRs, FS, pF⟩ := pR
  obtain ⟨pRs2, FS2, pF2⟩ := pR2
  refine hMetX_of (by decide +kernel) (Nat.le_of_ble_eq_true rfl) (hCat_cons rfl (hCat_cons rfl (hCat_cons rfl (hCat_cons rfl (hCat_cons rfl hCat_nil))))) (fun k C hno => ?_)
  show hG _ _ _ _ _ _ _ _ [some (.ref x), some (.int p), some (.int q), some (.int w), some (.int dmp), none, none] _
  refine g_aload_n (q := 1) C dX4_until_0 rfl (by first | exact hRef_r _ | exact hRef_o _ | exact hRef_n) rfl ?_
  refine g_get (q := 4) C hcl_X4 3 (by decide) qw_136 rfl dX4_until_1 (by exact pL) rfl rfl ?_
  refine g_iload_n (q := 5) C dX4_until_4 rfl rfl ?_
  refine g_iload_n (q := 6) C dX4_until_5 rfl rfl ?_
  refine g_callV2O (q := 9) C hy_X3_hookAt (c_X3_hookAt Γ l p q pRs2) qw_359 (by exact pRs2.2.choose_spec.choose_spec.1) rfl ⟨Nat.le_of_ble_eq_true rfl, Nat.le_of_ble_eq_true rfl⟩ (Nat.le_of_ble_eq_true rfl) rfl dX4_until_6 ⟨rfl, rfl⟩ ⟨Nat.zero_le _, Nat.zero_le _⟩ rfl ?_
  refine g_astore5 (q := 11) C dX4_until_9 (by first | exact hRef_r _ | exact hRef_o _ | exact hRef_n) (by first | rfl | exact hNw_rf _) rfl ?_
  refine g_aload (q := 13) C dX4_until_11 rfl (by first | exact hRef_r _ | exact hRef_o _ | exact hRef_n) rfl ?_
  refine g_ifnonnull (t := 26) (q := 16) C dX4_until_13 (by decide) rfl (fun y_13 e_13 => ?_) (fun e_13 => ?_)
  · skip
    obtain ⟨f_13, q_13⟩ := hkAtO_s e_13
    subst q_13
    have hi := isHk_lt f_13
    rw [e_13]
    refine g_iload_n (q := 27) C dX4_until_26 rfl rfl ?_
    refine g_iconst (q := 28) (0) C dX4_until_27 (by decide) rfl ?_
    refine g_bipush (q := 30) (100) C dX4_until_28 (by decide) rfl ?_
    refine g_callS3P (q := 33) C hy_X4_isWithin (c_X4_isWithin Γ l w 0 100) qw_361 ⟨Nat.le_of_ble_eq_true rfl, Nat.le_of_ble_eq_true rfl⟩ (Nat.le_of_ble_eq_true rfl) rfl dX4_until_30 ⟨rfl, rfl⟩ ⟨Nat.zero_le _, Nat.zero_le _⟩ rfl ?_
    refine g_ifB_ne (t := 46) (q := 36) C dX4_until_33 (by decide) rfl (fun c_33 => ?_) (fun c_33 => ?_)
    · skip
      have f_33 : inR 0 100 w = true := c_33
      refine g_iload (q := 48) C dX4_until_46 rfl rfl ?_
      refine g_iconst (q := 49) (0) C dX4_until_48 (by decide) rfl ?_
      refine g_bipush (q := 51) (9) C dX4_until_49 (by decide) rfl ?_
      refine g_callS3P (q := 54) C hy_X4_isWithin (c_X4_isWithin Γ l dmp 0 9) qw_361 ⟨Nat.le_of_ble_eq_true rfl, Nat.le_of_ble_eq_true rfl⟩ (Nat.le_of_ble_eq_true rfl) rfl dX4_until_51 ⟨rfl, rfl⟩ ⟨Nat.zero_le _, Nat.zero_le _⟩ rfl ?_
      refine g_ifB_ne (t := 67) (q := 57) C dX4_until_54 (by decide) rfl (fun c_54 => ?_) (fun c_54 => ?_)
      · skip
        have f_54 : inR 0 9 dmp = true := c_54
        refine g_aload_n (q := 68) C dX4_until_67 rfl (by first | exact hRef_r _ | exact hRef_o _ | exact hRef_n) rfl ?_
        refine g_get (q := 71) C hcl_X4 3 (by decide) qw_136 rfl dX4_until_68 (by exact pL) rfl rfl ?_
        refine g_aload_n (q := 72) C dX4_until_71 rfl (by first | exact hRef_r _ | exact hRef_o _ | exact hRef_n) rfl ?_
        refine g_get (q := 75) C hcl_X4 2 (by decide) qw_135 rfl dX4_until_72 (by exact pL) rfl rfl ?_
        refine g_callV1V (q := 78) C hy_X3_copyAllOf (c_X3_copyAllOf Γ l pRs2 pF2 pRs pF (fun i j hi hj q => nHK j i hj hi q.symm)) qw_646 (by exact pRs2.2.choose_spec.choose_spec.1) rfl ⟨Nat.le_of_ble_eq_true rfl, Nat.le_of_ble_eq_true rfl⟩ (Nat.le_of_ble_eq_true rfl) rfl dX4_until_75 ⟨rfl, rfl⟩ ⟨Nat.zero_le _, Nat.zero_le _⟩ rfl (fun M_75 p_75 => ?_)
        obtain ⟨hF1, ho1⟩ := p_75
        obtain ⟨hL1, hK1⟩ := hL.trial pF2 hF1 ho1
        refine g_aload (q := 80) C dX4_until_78 rfl (by first | exact hRef_r _ | exact hRef_o _ | exact hRef_n) rfl ?_
        refine g_callV0P (q := 83) C hy_X1_isTaken (c_X1_isTaken Γ l (hF1 _ hi)) qw_510 (by exact hF1 _ hi) rfl ⟨Nat.le_of_ble_eq_true rfl, Nat.le_of_ble_eq_true rfl⟩ (Nat.le_of_ble_eq_true rfl) rfl dX4_until_80 ⟨rfl, rfl⟩ ⟨Nat.zero_le _, Nat.zero_le _⟩ rfl ?_
        refine g_ifB_ne (t := 88) (q := 86) C dX4_until_83 (by decide) rfl (fun c_83 => ?_) (fun c_83 => ?_)
        · skip
          have f_83 : bTak (sB S (ixOf p q)) = true := (RelV.tk hRV hi).symm.trans c_83
          refine g_iconst (q := 89) (0) C dX4_until_88 (by decide) rfl ?_
          refine g_istore6 (q := 91) C dX4_until_89 (by first | rfl | exact hNw_rf _) rfl ?_
          refine h_loopU (P := fun t => ∀ (M3 : hM) (V3 : Nat → hB) (FS3 : Nat → Int32 × Bool), ltQ Γ M3 x S hl9 ol rk tr edh edo hb ob hk hk2 V V3 g0 → hkF M3 hk2 V3 FS3 → RelV hb V3 (vDays (sE S) (sL S) (sWin S) dmp (sB S) t) → hKp noHk M M3 → fndU (fun t => decide (bWet (vDays (sE S) (sL S) (sWin S) dmp (sB S) t (ixOf p q)) ≤ w)) 91 0 = fndU (fun t => decide (bWet (vDays (sE S) (sL S) (sWin S) dmp (sB S) t (ixOf p q)) ≤ w)) (91 - t) t → hG Γ k _ _ M3 0 0 91 [some (.ref x), some (.int p), some (.int q), some (.int w), some (.int dmp), some (va_rf (some (hk2 (ixOf p q)))), some (.int (nI t))] []) (N := 90) (fun t ht ih => ?_) 0 (Nat.zero_le _) _ V FS2 hL1 hF1 hRV hK1 rfl
          intro M3 V3 FS3 hL3 hF3 hR3 hK3 hA
          have hts : ((vDays (sE S) (sL S) (sWin S) dmp (sB S) t) (ixOf p q)).1.isSome = true := by rw [vDays_1]; exact f_83
          have hwt := hR3.wt hi hts
          refine g_iload (q := 93) C dX4_until_91 rfl rfl ?_
          refine g_bipush (q := 95) (90) C dX4_until_93 (by decide) rfl ?_
          refine g_icmp_ge (t := 127) (q := 98) C dX4_until_95 (by decide) rfl (fun c_95 => ?_) (fun c_95 => ?_)
          · skip
            have hN := nI_ge_eq ht (by decide) c_95
            subst hN
            refine g_aload (q := 129) C dX4_until_127 rfl (by first | exact hRef_r _ | exact hRef_o _ | exact hRef_n) rfl ?_
            refine g_callV0P (q := 132) C hy_X1_wetness (c_X1_wetness Γ l (hF3 _ hi)) qw_521 (by exact hF3 _ hi) rfl ⟨Nat.le_of_ble_eq_true rfl, Nat.le_of_ble_eq_true rfl⟩ (Nat.le_of_ble_eq_true rfl) rfl dX4_until_129 ⟨rfl, rfl⟩ ⟨Nat.zero_le _, Nat.zero_le _⟩ rfl ?_
            refine g_iload_n (q := 133) C dX4_until_132 rfl rfl ?_
            refine g_icmp_le (t := 140) (q := 136) C dX4_until_133 (by decide) rfl (fun c_133 => ?_) (fun c_133 => ?_)
            · skip
              refine g_iload (q := 142) C dX4_until_140 rfl rfl ?_
              exact g_x (g_iret C dX4_until_142 (by have e_ : sUntil S p q w dmp = (0, fndU (fun t => decide (bWet (vDays (sE S) (sL S) (sWin S) dmp (sB S) t (ixOf p q)) ≤ w)) 91 0) := (by simp [sUntil, f_13, f_33, f_54, f_83]); rw [e_]; refine ⟨rfl, (?_ : _ = fndU (fun t => decide (bWet (vDays (sE S) (sL S) (sWin S) dmp (sB S) t (ixOf p q)) ≤ w)) 91 0), hL3.P, hK3.c1⟩; rw [hA]; first | exact absurd c_104 c_133 | (rw [show 91 - t = (90 - t) + 1 by omega]; exact (fndU_t (P := (fun t => decide (bWet (vDays (sE S) (sL S) (sWin S) dmp (sB S) t (ixOf p q)) ≤ w))) (decide_eq_true (le_eq9 hwt.symm c_104))).symm) | (rw [show 91 - 90 = 0 + 1 from rfl]; exact (fndU_t (P := (fun t => decide (bWet (vDays (sE S) (sL S) (sWin S) dmp (sB S) t (ixOf p q)) ≤ w))) (n := 0) (decide_eq_true (le_eq9 hwt.symm c_133))).symm) | (rw [show 91 - 90 = 0 + 1 from rfl]; exact (fndU_f (P := (fun t => decide (bWet (vDays (sE S) (sL S) (sWin S) dmp (sB S) t (ixOf p q)) ≤ w))) (n := 0) (j := 90) (decide_eq_false (fun h9 => c_133 (le_eq9 hwt h9)))).symm)) (Nat.zero_le _) (Nat.zero_le _))
            · skip
              refine g_iconst (q := 137) (-1) C dX4_until_136 (by decide) rfl ?_
              refine g_goto (t := 142) C dX4_until_137 (by decide) ?_
              exact g_x (g_iret C dX4_until_142 (by have e_ : sUntil S p q w dmp = (0, fndU (fun t => decide (bWet (vDays (sE S) (sL S) (sWin S) dmp (sB S) t (ixOf p q)) ≤ w)) 91 0) := (by simp [sUntil, f_13, f_33, f_54, f_83]); rw [e_]; refine ⟨rfl, (?_ : _ = fndU (fun t => decide (bWet (vDays (sE S) (sL S) (sWin S) dmp (sB S) t (ixOf p q)) ≤ w)) 91 0), hL3.P, hK3.c1⟩; rw [hA]; first | exact absurd c_104 c_133 | (rw [show 91 - t = (90 - t) + 1 by omega]; exact (fndU_t (P := (fun t => decide (bWet (vDays (sE S) (sL S) (sWin S) dmp (sB S) t (ixOf p q)) ≤ w))) (decide_eq_true (le_eq9 hwt.symm c_104))).symm) | (rw [show 91 - 90 = 0 + 1 from rfl]; exact (fndU_t (P := (fun t => decide (bWet (vDays (sE S) (sL S) (sWin S) dmp (sB S) t (ixOf p q)) ≤ w))) (n := 0) (decide_eq_true (le_eq9 hwt.symm c_133))).symm) | (rw [show 91 - 90 = 0 + 1 from rfl]; exact (fndU_f (P := (fun t => decide (bWet (vDays (sE S) (sL S) (sWin S) dmp (sB S) t (ixOf p q)) ≤ w))) (n := 0) (j := 90) (decide_eq_false (fun h9 => c_133 (le_eq9 hwt h9)))).symm)) (Nat.zero_le _) (Nat.zero_le _))
          · skip
            have hlt := nI_nge_lt ht (by decide) c_95
            refine g_aload (q := 100) C dX4_until_98 rfl (by first | exact hRef_r _ | exact hRef_o _ | exact hRef_n) rfl ?_
            refine g_callV0P (q := 103) C hy_X1_wetness (c_X1_wetness Γ l (hF3 _ hi)) qw_521 (by exact hF3 _ hi) rfl ⟨Nat.le_of_ble_eq_true rfl, Nat.le_of_ble_eq_true rfl⟩ (Nat.le_of_ble_eq_true rfl) rfl dX4_until_100 ⟨rfl, rfl⟩ ⟨Nat.zero_le _, Nat.zero_le _⟩ rfl ?_
            refine g_iload_n (q := 104) C dX4_until_103 rfl rfl ?_
            refine g_icmp_le (t := 127) (q := 107) C dX4_until_104 (by decide) rfl (fun c_104 => ?_) (fun c_104 => ?_)
            · skip
              refine g_aload (q := 129) C dX4_until_127 rfl (by first | exact hRef_r _ | exact hRef_o _ | exact hRef_n) rfl ?_
              refine g_callV0P (q := 132) C hy_X1_wetness (c_X1_wetness Γ l (hF3 _ hi)) qw_521 (by exact hF3 _ hi) rfl ⟨Nat.le_of_ble_eq_true rfl, Nat.le_of_ble_eq_true rfl⟩ (Nat.le_of_ble_eq_true rfl) rfl dX4_until_129 ⟨rfl, rfl⟩ ⟨Nat.zero_le _, Nat.zero_le _⟩ rfl ?_
              refine g_iload_n (q := 133) C dX4_until_132 rfl rfl ?_
              refine g_icmp_le (t := 140) (q := 136) C dX4_until_133 (by decide) rfl (fun c_133 => ?_) (fun c_133 => ?_)
              · skip
                refine g_iload (q := 142) C dX4_until_140 rfl rfl ?_
                exact g_x (g_iret C dX4_until_142 (by have e_ : sUntil S p q w dmp = (0, fndU (fun t => decide (bWet (vDays (sE S) (sL S) (sWin S) dmp (sB S) t (ixOf p q)) ≤ w)) 91 0) := (by simp [sUntil, f_13, f_33, f_54, f_83]); rw [e_]; refine ⟨rfl, (?_ : _ = fndU (fun t => decide (bWet (vDays (sE S) (sL S) (sWin S) dmp (sB S) t (ixOf p q)) ≤ w)) 91 0), hL3.P, hK3.c1⟩; rw [hA]; first | exact absurd c_104 c_133 | (rw [show 91 - t = (90 - t) + 1 by omega]; exact (fndU_t (P := (fun t => decide (bWet (vDays (sE S) (sL S) (sWin S) dmp (sB S) t (ixOf p q)) ≤ w))) (decide_eq_true (le_eq9 hwt.symm c_104))).symm) | (rw [show 91 - 90 = 0 + 1 from rfl]; exact (fndU_t (P := (fun t => decide (bWet (vDays (sE S) (sL S) (sWin S) dmp (sB S) t (ixOf p q)) ≤ w))) (n := 0) (decide_eq_true (le_eq9 hwt.symm c_133))).symm) | (rw [show 91 - 90 = 0 + 1 from rfl]; exact (fndU_f (P := (fun t => decide (bWet (vDays (sE S) (sL S) (sWin S) dmp (sB S) t (ixOf p q)) ≤ w))) (n := 0) (j := 90) (decide_eq_false (fun h9 => c_133 (le_eq9 hwt h9)))).symm)) (Nat.zero_le _) (Nat.zero_le _))
              · skip
                refine g_iconst (q := 137) (-1) C dX4_until_136 (by decide) rfl ?_
                refine g_goto (t := 142) C dX4_until_137 (by decide) ?_
                exact g_x (g_iret C dX4_until_142 (by have e_ : sUntil S p q w dmp = (0, fndU (fun t => decide (bWet (vDays (sE S) (sL S) (sWin S) dmp (sB S) t (ixOf p q)) ≤ w)) 91 0) := (by simp [sUntil, f_13, f_33, f_54, f_83]); rw [e_]; refine ⟨rfl, (?_ : _ = fndU (fun t => decide (bWet (vDays (sE S) (sL S) (sWin S) dmp (sB S) t (ixOf p q)) ≤ w)) 91 0), hL3.P, hK3.c1⟩; rw [hA]; first | exact absurd c_104 c_133 | (rw [show 91 - t = (90 - t) + 1 by omega]; exact (fndU_t (P := (fun t => decide (bWet (vDays (sE S) (sL S) (sWin S) dmp (sB S) t (ixOf p q)) ≤ w))) (decide_eq_true (le_eq9 hwt.symm c_104))).symm) | (rw [show 91 - 90 = 0 + 1 from rfl]; exact (fndU_t (P := (fun t => decide (bWet (vDays (sE S) (sL S) (sWin S) dmp (sB S) t (ixOf p q)) ≤ w))) (n := 0) (decide_eq_true (le_eq9 hwt.symm c_133))).symm) | (rw [show 91 - 90 = 0 + 1 from rfl]; exact (fndU_f (P := (fun t => decide (bWet (vDays (sE S) (sL S) (sWin S) dmp (sB S) t (ixOf p q)) ≤ w))) (n := 0) (j := 90) (decide_eq_false (fun h9 => c_133 (le_eq9 hwt h9)))).symm)) (Nat.zero_le _) (Nat.zero_le _))
            · skip
              refine g_aload_n (q := 108) C dX4_until_107 rfl (by first | exact hRef_r _ | exact hRef_o _ | exact hRef_n) rfl ?_
              refine g_get (q := 111) C hcl_X4 3 (by decide) qw_136 rfl dX4_until_108 (by exact hL3.1) rfl rfl ?_
              refine g_iconst (q := 112) (1) C dX4_until_111 (by decide) rfl ?_
              refine g_aload_n (q := 113) C dX4_until_112 rfl (by first | exact hRef_r _ | exact hRef_o _ | exact hRef_n) rfl ?_
              refine g_get (q := 116) C hcl_X4 4 (by decide) qw_137 rfl dX4_until_113 (by exact hL3.1) rfl rfl ?_
              refine g_iload (q := 118) C dX4_until_116 rfl rfl ?_
              refine g_callV3V (q := 121) C hy_X3_letDaysGo (c_X3_letDaysGo Γ l (dn := 1) (sWin S) dmp hL3.2.2.2.2.2.2.2.1.1 hF3 (hbF.of2 hL3 hR3 (hI.day (sWin S) dmp t)) (by decide)) qw_605 (by exact hL3.2.2.2.2.2.2.2.1.1.2.choose_spec.choose_spec.1) rfl ⟨Nat.le_of_ble_eq_true rfl, Nat.le_of_ble_eq_true rfl⟩ (Nat.le_of_ble_eq_true rfl) rfl dX4_until_118 ⟨rfl, rfl⟩ ⟨Nat.zero_le _, Nat.zero_le _⟩ rfl (fun M_118 p_118 => ?_)
              obtain ⟨⟨FS4, hF4⟩, ho4⟩ := p_118
              obtain ⟨hL4, hK4⟩ := hL3.trial hF3 hF4 ho4
              have hR4 := hL3.days hI hR3 (hI.day (sWin S) dmp t) (sWin S) dmp 1
              refine g_iinc6 (q := 124) (1) C dX4_until_121 (by decide) (by first | rfl | exact hNw_rf _) rfl ?_
              refine g_goto (t := 91) C dX4_until_124 (by decide) ?_
              rw [nI_1]
              exact ih hlt _ _ _ hL4 hF4 hR4 (hK3.tr hK4) (hA.trans (by rw [show 91 - t = (91 - (t + 1)) + 1 by omega]; exact fndU_f (decide_eq_false (fun h9 => c_104 (le_eq9 hwt h9)))))
        · skip
          have f_83 : bTak (sB S (ixOf p q)) = false := (RelV.tk hRV hi).symm.trans c_83
          refine g_iconst (q := 87) (-1) C dX4_until_86 (by decide) rfl ?_
          exact g_x (g_iret C dX4_until_87 (by have e_ : sUntil S p q w dmp = (0, -1) := (by simp [sUntil, f_13, f_33, f_54, f_83]); rw [e_]; exact ⟨rfl, rfl, hL1.P, hK1.c1⟩) (Nat.zero_le _) (Nat.zero_le _))
      · skip
        have f_54 : inR 0 9 dmp = false := c_54
        exact g_throwS C hl hno hThr_IAE hs_147 ⟨1, by simp [sUntil, f_13, f_33, f_54], rfl⟩ rfl dX4_until_57 dX4_until_60 dX4_until_61 dX4_until_63 dX4_until_66 (by decide) (by decide) (by decide) (by decide) (by decide) (by decide)
    · skip
      have f_33 : inR 0 100 w = false := c_33
      exact g_throwS C hl hno hThr_IAE hs_82 ⟨1, by simp [sUntil, f_13, f_33], rfl⟩ rfl dX4_until_36 dX4_until_39 dX4_until_40 dX4_until_42 dX4_until_45 (by decide) (by decide) (by decide) (by decide) (by decide) (by decide)
  · skip
    have f_13 := hkAtO_n e_13
    exact g_throwS C hl hno hThr_IOB hs_73 ⟨0, by simp [sUntil, f_13], rfl⟩ rfl dX4_until_16 dX4_until_19 dX4_until_20 dX4_until_22 dX4_until_25 (by decide) (by decide) (by decide) (by decide) (by decide) (by decide)
set_option maxRecDepth 100000 in
set_option maxHeartbeats 4000000 in
theorem c_X4_advise (Γ : hGam) (l : Launch) {M : hM} {x : Nat} {S : hS} (d dmp : Int32) (hl : l.stackTraces = false) (hL0 : ltP Γ M x S) (hI : sInv S) : hMetX Γ l yX4_advise cX4_advise 7 (some .int) rm_X4_advise [.ref x, .int d, .int dmp] M (hpI (fun a M1 => (sAdv S d dmp).1 = 0 ∧ a = (sAdv S d dmp).2 ∧ ltP Γ M1 x S ∧ hKp noCls M M1)) (thrN [eIAE] (sAdv S d dmp).1) := by
  obtain ⟨hl9, ol, rk, tr, edh, edo, hb, ob, hk, hk2, V, V2, g0, hL⟩ := hL0
  have hLc := hL
  obtain ⟨pL, pT, pH, pO, nHO, nED, pR, pR2, nHK, hRV⟩ := hLc
  obtain ⟨pRs, FS, pF⟩ := pR
  obtain ⟨pRs2, FS2, pF2⟩ := pR2
  refine hMetX_of (by decide +kernel) (Nat.le_of_ble_eq_true rfl) (hCat_cons rfl (hCat_cons rfl (hCat_cons rfl hCat_nil))) (fun k C hno => ?_)
  show hG _ _ _ _ _ _ _ _ [some (.ref x), some (.int d), some (.int dmp), none, none, none, none] _
  refine g_iload_n (q := 1) C dX4_advise_0 rfl rfl ?_
  refine g_iconst (q := 2) (1) C dX4_advise_1 (by decide) rfl ?_
  refine g_bipush (q := 4) (30) C dX4_advise_2 (by decide) rfl ?_
  refine g_callS3P (q := 7) C hy_X4_isWithin (c_X4_isWithin Γ l d 1 30) qw_361 ⟨Nat.le_of_ble_eq_true rfl, Nat.le_of_ble_eq_true rfl⟩ (Nat.le_of_ble_eq_true rfl) rfl dX4_advise_4 ⟨rfl, rfl⟩ ⟨Nat.zero_le _, Nat.zero_le _⟩ rfl ?_
  refine g_ifB_ne (t := 20) (q := 10) C dX4_advise_7 (by decide) rfl (fun c_7 => ?_) (fun c_7 => ?_)
  · skip
    have f_7 : inR 1 30 d = true := c_7
    refine g_iload_n (q := 21) C dX4_advise_20 rfl rfl ?_
    refine g_iconst (q := 22) (0) C dX4_advise_21 (by decide) rfl ?_
    refine g_bipush (q := 24) (9) C dX4_advise_22 (by decide) rfl ?_
    refine g_callS3P (q := 27) C hy_X4_isWithin (c_X4_isWithin Γ l dmp 0 9) qw_361 ⟨Nat.le_of_ble_eq_true rfl, Nat.le_of_ble_eq_true rfl⟩ (Nat.le_of_ble_eq_true rfl) rfl dX4_advise_24 ⟨rfl, rfl⟩ ⟨Nat.zero_le _, Nat.zero_le _⟩ rfl ?_
    refine g_ifB_ne (t := 40) (q := 30) C dX4_advise_27 (by decide) rfl (fun c_27 => ?_) (fun c_27 => ?_)
    · skip
      have f_27 : inR 0 9 dmp = true := c_27
      refine g_aload_n (q := 41) C dX4_advise_40 rfl (by first | exact hRef_r _ | exact hRef_o _ | exact hRef_n) rfl ?_
      refine g_get (q := 44) C hcl_X4 3 (by decide) qw_136 rfl dX4_advise_41 (by exact pL) rfl rfl ?_
      refine g_aload_n (q := 45) C dX4_advise_44 rfl (by first | exact hRef_r _ | exact hRef_o _ | exact hRef_n) rfl ?_
      refine g_get (q := 48) C hcl_X4 2 (by decide) qw_135 rfl dX4_advise_45 (by exact pL) rfl rfl ?_
      refine g_callV1V (q := 51) C hy_X3_copyAllOf (c_X3_copyAllOf Γ l pRs2 pF2 pRs pF (fun i j hi hj q => nHK j i hj hi q.symm)) qw_646 (by exact pRs2.2.choose_spec.choose_spec.1) rfl ⟨Nat.le_of_ble_eq_true rfl, Nat.le_of_ble_eq_true rfl⟩ (Nat.le_of_ble_eq_true rfl) rfl dX4_advise_48 ⟨rfl, rfl⟩ ⟨Nat.zero_le _, Nat.zero_le _⟩ rfl (fun M_48 p_48 => ?_)
      obtain ⟨hF1, ho1⟩ := p_48
      obtain ⟨hL1, hK1⟩ := hL.trial pF2 hF1 ho1
      obtain ⟨dn_, hdn, rfl⟩ := inR_nI f_7 (by decide) (N := 30) rfl
      refine g_aload_n (q := 52) C dX4_advise_51 rfl (by first | exact hRef_r _ | exact hRef_o _ | exact hRef_n) rfl ?_
      refine g_iload_n (q := 53) C dX4_advise_52 rfl rfl ?_
      refine g_iload_n (q := 54) C dX4_advise_53 rfl rfl ?_
      refine g_callV2I (q := 57) C hy_X4_scoreOfTrialBehind (c_X4_scoreOfTrialBehind Γ l dmp hL1 hI hRV hI.lt (show dn_ < 1000 by omega)) qw_667 (by exact hL1.1) rfl ⟨Nat.le_of_ble_eq_true rfl, Nat.le_of_ble_eq_true rfl⟩ (Nat.le_of_ble_eq_true rfl) rfl dX4_advise_54 ⟨rfl, rfl⟩ ⟨Nat.zero_le _, Nat.zero_le _⟩ rfl (fun x_54 M_54 p_54 => ?_)
      obtain ⟨hs2, V2b, hL2, hK2⟩ := p_54
      refine g_istore3 (q := 58) C dX4_advise_57 (by first | rfl | exact hNw_rf _) rfl ?_
      refine g_iconst (q := 59) (-1) C dX4_advise_58 (by decide) rfl ?_
      refine g_istore4 (q := 61) C dX4_advise_59 (by first | rfl | exact hNw_rf _) rfl ?_
      refine g_iconst (q := 62) (0) C dX4_advise_61 (by decide) rfl ?_
      refine g_istore5 (q := 64) C dX4_advise_62 (by first | rfl | exact hNw_rf _) rfl ?_
      refine h_loopU (P := fun s => ∀ (M3 : hM) (V3 : Nat → hB) (be ls : Int32) (o6 : Option Value), ltQ Γ M3 x S hl9 ol rk tr edh edo hb ob hk hk2 V V3 g0 → hKp noHk M M3 → (be, ls) = adR (scor (vDays (sE S) (sL S) (sWin S) dmp (sB S) dn_)) (fun s => scor (vDays (sE S) (sL S) (sWin S) dmp (vTurn s (sB S)) dn_)) s → hG Γ k _ _ M3 0 0 64 [some (.ref x), some (.int (nI dn_)), some (.int dmp), some (.int ls), some (.int be), some (.int (nI s)), o6] []) (N := 5) (fun s hs ih => ?_) 0 (Nat.zero_le _) _ V2b (-1) _ none hL2 (hK1.tr hK2) (by rw [hs2]; rfl)
      intro M3 V3 be ls o6 hL3 hK3 hb5
      obtain ⟨pRs3, FS3, pF3⟩ := hL3.2.2.2.2.2.2.1
      obtain ⟨pRt3, FT3, pT3⟩ := hL3.2.2.2.2.2.2.2.1
      refine g_iload (q := 66) C dX4_advise_64 rfl rfl ?_
      refine g_iconst (q := 67) (5) C dX4_advise_66 (by decide) rfl ?_
      refine g_icmp_ge (t := 118) (q := 70) C dX4_advise_67 (by decide) rfl (fun c_67 => ?_) (fun c_67 => ?_)
      · skip
        have hN := nI_ge_eq hs (by decide) c_67
        subst hN
        refine g_iload (q := 120) C dX4_advise_118 rfl rfl ?_
        exact g_x (g_iret C dX4_advise_120 (by have e_ : sAdv S (nI dn_) dmp = (0, (adR (scor (vDays (sE S) (sL S) (sWin S) dmp (sB S) dn_)) (fun s => scor (vDays (sE S) (sL S) (sWin S) dmp (vTurn s (sB S)) dn_)) 5).1) := (by simp [sAdv, sAft, show hNo (nI dn_) = dn_ from nI_clamp (by omega), f_7, f_27]); rw [e_, ← hb5]; exact ⟨rfl, rfl, hL3.P, hK3.c1⟩) (Nat.zero_le _) (Nat.zero_le _))
      · skip
        have hlt := nI_nge_lt hs (by decide) c_67
        refine g_aload_n (q := 71) C dX4_advise_70 rfl (by first | exact hRef_r _ | exact hRef_o _ | exact hRef_n) rfl ?_
        refine g_get (q := 74) C hcl_X4 3 (by decide) qw_136 rfl dX4_advise_71 (by exact hL3.1) rfl rfl ?_
        refine g_aload_n (q := 75) C dX4_advise_74 rfl (by first | exact hRef_r _ | exact hRef_o _ | exact hRef_n) rfl ?_
        refine g_get (q := 78) C hcl_X4 2 (by decide) qw_135 rfl dX4_advise_75 (by exact hL3.1) rfl rfl ?_
        refine g_callV1V (q := 81) C hy_X3_copyAllOf (c_X3_copyAllOf Γ l pRt3 pT3 pRs3 pF3 (fun i j hi hj q => nHK j i hj hi q.symm)) qw_646 (by exact pRt3.2.choose_spec.choose_spec.1) rfl ⟨Nat.le_of_ble_eq_true rfl, Nat.le_of_ble_eq_true rfl⟩ (Nat.le_of_ble_eq_true rfl) rfl dX4_advise_78 ⟨rfl, rfl⟩ ⟨Nat.zero_le _, Nat.zero_le _⟩ rfl (fun M_78 p_78 => ?_)
        obtain ⟨hF5, ho5⟩ := p_78
        obtain ⟨hL5, hK5⟩ := hL3.trial pT3 hF5 ho5
        refine g_aload_n (q := 82) C dX4_advise_81 rfl (by first | exact hRef_r _ | exact hRef_o _ | exact hRef_n) rfl ?_
        refine g_get (q := 85) C hcl_X4 3 (by decide) qw_136 rfl dX4_advise_82 (by exact hL5.1) rfl rfl ?_
        refine g_iload (q := 87) C dX4_advise_85 rfl rfl ?_
        refine g_callV1I (q := 90) C hy_X3_turnAllOn (c_X3_turnAllOn Γ l hL5.2.2.2.2.2.2.2.1.1 hF5 (show s < 5 from hlt)) qw_545 (by exact hL5.2.2.2.2.2.2.2.1.1.2.choose_spec.choose_spec.1) rfl ⟨Nat.le_of_ble_eq_true rfl, Nat.le_of_ble_eq_true rfl⟩ (Nat.le_of_ble_eq_true rfl) rfl dX4_advise_87 ⟨rfl, rfl⟩ ⟨Nat.zero_le _, Nat.zero_le _⟩ rfl (fun x_87 M_87 p_87 => ?_)
        obtain ⟨-, hF6, ho6⟩ := p_87
        obtain ⟨hL6, hK6⟩ := hL5.trial hF5 hF6 ho6
        refine g_pop (q := 91) C dX4_advise_90 rfl rfl ?_
        refine g_aload_n (q := 92) C dX4_advise_91 rfl (by first | exact hRef_r _ | exact hRef_o _ | exact hRef_n) rfl ?_
        refine g_iload_n (q := 93) C dX4_advise_92 rfl rfl ?_
        refine g_iload_n (q := 94) C dX4_advise_93 rfl rfl ?_
        refine g_callV2I (q := 97) C hy_X4_scoreOfTrialBehind (c_X4_scoreOfTrialBehind Γ l dmp hL6 hI (RelV.turn hRV s) (hI.tu s) (show dn_ < 1000 by omega)) qw_667 (by exact hL6.1) rfl ⟨Nat.le_of_ble_eq_true rfl, Nat.le_of_ble_eq_true rfl⟩ (Nat.le_of_ble_eq_true rfl) rfl dX4_advise_94 ⟨rfl, rfl⟩ ⟨Nat.zero_le _, Nat.zero_le _⟩ rfl (fun x_94 M_94 p_94 => ?_)
        obtain ⟨hs7, V7, hL7, hK7⟩ := p_94
        refine g_istore6 (q := 99) C dX4_advise_97 (by first | rfl | exact hNw_rf _) rfl ?_
        refine g_iload (q := 101) C dX4_advise_99 rfl rfl ?_
        refine g_iload_n (q := 102) C dX4_advise_101 rfl rfl ?_
        refine g_icmp_ge (t := 112) (q := 105) C dX4_advise_102 (by decide) rfl (fun c_102 => ?_) (fun c_102 => ?_)
        · skip
          refine g_iinc5 (q := 115) (1) C dX4_advise_112 (by decide) (by first | rfl | exact hNw_rf _) rfl ?_
          refine g_goto (t := 64) C dX4_advise_115 (by decide) ?_
          rw [nI_1]
          refine ih hlt _ V7 _ _ _ hL7 (((hK3.tr hK5).tr hK6).tr hK7) ?_
          rw [adR_s, ← hb5, if_neg (Int32.not_lt.mpr (hs7 ▸ c_102))]
        · skip
          refine g_iload (q := 107) C dX4_advise_105 rfl rfl ?_
          refine g_istore3 (q := 108) C dX4_advise_107 (by first | rfl | exact hNw_rf _) rfl ?_
          refine g_iload (q := 110) C dX4_advise_108 rfl rfl ?_
          refine g_istore4 (q := 112) C dX4_advise_110 (by first | rfl | exact hNw_rf _) rfl ?_
          refine g_iinc5 (q := 115) (1) C dX4_advise_112 (by decide) (by first | rfl | exact hNw_rf _) rfl ?_
          refine g_goto (t := 64) C dX4_advise_115 (by decide) ?_
          rw [nI_1]
          refine ih hlt _ V7 _ _ _ hL7 (((hK3.tr hK5).tr hK6).tr hK7) ?_
          rw [adR_s, ← hb5, if_pos (hs7 ▸ Int32.not_le.mp c_102), hs7]
    · skip
      have f_27 : inR 0 9 dmp = false := c_27
      exact g_throwS C hl hno hThr_IAE hs_147 ⟨0, by simp [sAdv, f_7, f_27], rfl⟩ rfl dX4_advise_30 dX4_advise_33 dX4_advise_34 dX4_advise_36 dX4_advise_39 (by decide) (by decide) (by decide) (by decide) (by decide) (by decide)
  · skip
    have f_7 : inR 1 30 d = false := c_7
    exact g_throwS C hl hno hThr_IAE hs_216 ⟨0, by simp [sAdv, f_7], rfl⟩ rfl dX4_advise_10 dX4_advise_13 dX4_advise_14 dX4_advise_16 dX4_advise_19 (by decide) (by decide) (by decide) (by decide) (by decide) (by decide)
