set_option maxRecDepth 100000 in
set_option maxHeartbeats 4000000 in
theorem c_X4_take (Γ : hGam) (l : Launch) {M : hM} {x : Nat} {S : hS} (p q : Int32) (hl : l.stackTraces = false) (hL0 : ltP Γ M x S) (hI : sInv S) : hMetX Γ l yX4_take cX4_take 5 (some .int) rm_X4_take [.ref x, .int p, .int q] M (hpI (fun a M1 => (sTake S p q).1 = 0 ∧ a = (sTake S p q).2.1 ∧ ltP Γ M1 x (sTake S p q).2.2 ∧ hKp noCls M M1)) (thrN [eIOB, eISE] (sTake S p q).1) := by
  obtain ⟨hl9, ol, rk, tr, edh, edo, hb, ob, hk, hk2, V, V2, g0, hL⟩ := hL0
  have hLc := hL
  obtain ⟨pL, pT, pH, pO, nHO, nED, pR, pR2, nHK, hRV⟩ := hLc
  obtain ⟨pRs, FS, pF⟩ := pR
  obtain ⟨pRs2, FS2, pF2⟩ := pR2
  refine hMetX_of (by decide +kernel) (Nat.le_of_ble_eq_true rfl) (hCat_cons rfl (hCat_cons rfl (hCat_cons rfl hCat_nil))) (fun k C hno => ?_)
  show hG _ _ _ _ _ _ _ _ [some (.ref x), some (.int p), some (.int q), none, none] _
  refine g_aload_n (q := 1) C dX4_take_0 rfl (by first | exact hRef_r _ | exact hRef_o _ | exact hRef_n) rfl ?_
  refine g_get (q := 4) C hcl_X4 2 (by decide) qw_118 rfl dX4_take_1 (by exact pL) rfl rfl ?_
  refine g_iload_n (q := 5) C dX4_take_4 rfl rfl ?_
  refine g_iload_n (q := 6) C dX4_take_5 rfl rfl ?_
  refine g_callV2O (q := 9) C hy_X3_hookAt (c_X3_hookAt Γ l p q pRs) qw_139 (by exact pRs.2.choose_spec.choose_spec.1) rfl ⟨Nat.le_of_ble_eq_true rfl, Nat.le_of_ble_eq_true rfl⟩ (Nat.le_of_ble_eq_true rfl) rfl dX4_take_6 ⟨rfl, rfl⟩ ⟨Nat.zero_le _, Nat.zero_le _⟩ rfl ?_
  refine g_astore3 (q := 10) C dX4_take_9 (by first | exact hRef_r _ | exact hRef_o _ | exact hRef_n) (by first | rfl | exact hNw_rf _) rfl ?_
  refine g_aload_n (q := 11) C dX4_take_10 rfl (by first | exact hRef_r _ | exact hRef_o _ | exact hRef_n) rfl ?_
  refine g_ifnonnull (t := 24) (q := 14) C dX4_take_11 (by decide) rfl (fun y_11 e_11 => ?_) (fun e_11 => ?_)
  · skip
    obtain ⟨f_11, q_11⟩ := hkAtO_s e_11
    subst q_11
    have hi := isHk_lt f_11
    rw [e_11]
    refine g_aload_n (q := 25) C dX4_take_24 rfl (by first | exact hRef_r _ | exact hRef_o _ | exact hRef_n) rfl ?_
    refine g_callV0P (q := 28) C hy_X1_isTaken (c_X1_isTaken Γ l (pF _ hi)) qw_214 (by exact pF _ hi) rfl ⟨Nat.le_of_ble_eq_true rfl, Nat.le_of_ble_eq_true rfl⟩ (Nat.le_of_ble_eq_true rfl) rfl dX4_take_25 ⟨rfl, rfl⟩ ⟨Nat.zero_le _, Nat.zero_le _⟩ rfl ?_
    refine g_ifB_ne (t := 41) (q := 31) C dX4_take_28 (by decide) rfl (fun c_28 => ?_) (fun c_28 => ?_)
    · skip
      have f_28 : bTak (sB S (ixOf p q)) = true := (RelV.tk hRV hi).symm.trans c_28
      refine g_aload_n (q := 42) C dX4_take_41 rfl (by first | exact hRef_r _ | exact hRef_o _ | exact hRef_n) rfl ?_
      refine g_callV0P (q := 45) C hy_X1_wetness (c_X1_wetness Γ l (pF _ hi)) qw_526 (by exact pF _ hi) rfl ⟨Nat.le_of_ble_eq_true rfl, Nat.le_of_ble_eq_true rfl⟩ (Nat.le_of_ble_eq_true rfl) rfl dX4_take_42 ⟨rfl, rfl⟩ ⟨Nat.zero_le _, Nat.zero_le _⟩ rfl ?_
      refine g_istore4 (q := 47) C dX4_take_45 (by first | rfl | exact hNw_rf _) rfl ?_
      refine g_aload_n (q := 48) C dX4_take_47 rfl (by first | exact hRef_r _ | exact hRef_o _ | exact hRef_n) rfl ?_
      refine g_callV0V (q := 51) C hy_X1_clear (c_X1_clear Γ l (pF _ hi)) qw_239 (by exact pF _ hi) rfl ⟨Nat.le_of_ble_eq_true rfl, Nat.le_of_ble_eq_true rfl⟩ (Nat.le_of_ble_eq_true rfl) rfl dX4_take_48 ⟨rfl, rfl⟩ ⟨Nat.zero_le _, Nat.zero_le _⟩ rfl (fun M_48 p_48 => ?_)
      subst p_48
      obtain ⟨hF1, hL1, hK1⟩ := hL.put pF hi emp emp rfl (fun q => absurd rfl q)
      refine g_iload (q := 53) C dX4_take_51 rfl rfl ?_
      exact g_x (g_iret C dX4_take_53 (by have e_ : sTake S p q = (0, bWet (sB S (ixOf p q)), setB S (fUp (sB S) (ixOf p q) emp)) := (by simp [sTake, f_11, f_28]); rw [e_]; exact ⟨rfl, RelV.wt hRV hi f_28, hL1.P, hK1.c1⟩) (Nat.zero_le _) (Nat.zero_le _))
    · skip
      have f_28 : bTak (sB S (ixOf p q)) = false := (RelV.tk hRV hi).symm.trans c_28
      exact g_throwS C hl hno hThr_ISE hs_99 ⟨1, by simp [sTake, f_11, f_28], rfl⟩ rfl dX4_take_31 dX4_take_34 dX4_take_35 dX4_take_37 dX4_take_40 (by decide) (by decide) (by decide) (by decide) (by decide) (by decide)
  · skip
    have f_11 := hkAtO_n e_11
    exact g_throwS C hl hno hThr_IOB hs_73 ⟨0, by simp [sTake, f_11], rfl⟩ rfl dX4_take_14 dX4_take_17 dX4_take_18 dX4_take_20 dX4_take_23 (by decide) (by decide) (by decide) (by decide) (by decide) (by decide)
set_option maxRecDepth 100000 in
set_option maxHeartbeats 4000000 in
theorem c_X4_hang (Γ : hGam) (l : Launch) {M : hM} {x : Nat} {S : hS} (p q h w : Int32) (hl : l.stackTraces = false) (hL0 : ltP Γ M x S) (hI : sInv S) : hMetX Γ l yX4_hang cX4_hang 7 (some .int) rm_X4_hang [.ref x, .int p, .int q, .int h, .int w] M (hpI (fun a M1 => (sHang S p q h w).1 = 0 ∧ a = (sHang S p q h w).2.1 ∧ ltP Γ M1 x (sHang S p q h w).2.2 ∧ hKp noCls M M1)) (thrN [eIOB, eIAE, eISE] (sHang S p q h w).1) := by
  obtain ⟨hl9, ol, rk, tr, edh, edo, hb, ob, hk, hk2, V, V2, g0, hL⟩ := hL0
  have hLc := hL
  obtain ⟨pL, pT, pH, pO, nHO, nED, pR, pR2, nHK, hRV⟩ := hLc
  obtain ⟨pRs, FS, pF⟩ := pR
  obtain ⟨pRs2, FS2, pF2⟩ := pR2
  refine hMetX_of (by decide +kernel) (Nat.le_of_ble_eq_true rfl) (hCat_cons rfl (hCat_cons rfl (hCat_cons rfl (hCat_cons rfl (hCat_cons rfl hCat_nil))))) (fun k C hno => ?_)
  show hG _ _ _ _ _ _ _ _ [some (.ref x), some (.int p), some (.int q), some (.int h), some (.int w), none, none] _
  refine g_aload_n (q := 1) C dX4_hang_0 rfl (by first | exact hRef_r _ | exact hRef_o _ | exact hRef_n) rfl ?_
  refine g_get (q := 4) C hcl_X4 2 (by decide) qw_118 rfl dX4_hang_1 (by exact pL) rfl rfl ?_
  refine g_iload_n (q := 5) C dX4_hang_4 rfl rfl ?_
  refine g_iload_n (q := 6) C dX4_hang_5 rfl rfl ?_
  refine g_callV2O (q := 9) C hy_X3_hookAt (c_X3_hookAt Γ l p q pRs) qw_139 (by exact pRs.2.choose_spec.choose_spec.1) rfl ⟨Nat.le_of_ble_eq_true rfl, Nat.le_of_ble_eq_true rfl⟩ (Nat.le_of_ble_eq_true rfl) rfl dX4_hang_6 ⟨rfl, rfl⟩ ⟨Nat.zero_le _, Nat.zero_le _⟩ rfl ?_
  refine g_astore5 (q := 11) C dX4_hang_9 (by first | exact hRef_r _ | exact hRef_o _ | exact hRef_n) (by first | rfl | exact hNw_rf _) rfl ?_
  refine g_aload (q := 13) C dX4_hang_11 rfl (by first | exact hRef_r _ | exact hRef_o _ | exact hRef_n) rfl ?_
  refine g_ifnonnull (t := 26) (q := 16) C dX4_hang_13 (by decide) rfl (fun y_13 e_13 => ?_) (fun e_13 => ?_)
  · skip
    obtain ⟨f_13, q_13⟩ := hkAtO_s e_13
    subst q_13
    have hi := isHk_lt f_13
    rw [e_13]
    refine g_aload_n (q := 27) C dX4_hang_26 rfl (by first | exact hRef_r _ | exact hRef_o _ | exact hRef_n) rfl ?_
    refine g_iload_n (q := 28) C dX4_hang_27 rfl rfl ?_
    refine g_callV1O (q := 31) C hy_X4_herbNumbered (c_X4_herbNumbered Γ l h pL pH hI.1) qw_385 (by exact pL) rfl ⟨Nat.le_of_ble_eq_true rfl, Nat.le_of_ble_eq_true rfl⟩ (Nat.le_of_ble_eq_true rfl) rfl dX4_hang_28 ⟨rfl, rfl⟩ ⟨Nat.zero_le _, Nat.zero_le _⟩ rfl ?_
    refine g_astore6 (q := 33) C dX4_hang_31 (by first | exact hRef_r _ | exact hRef_o _ | exact hRef_n) (by first | rfl | exact hNw_rf _) rfl ?_
    refine g_aload (q := 35) C dX4_hang_33 rfl (by first | exact hRef_r _ | exact hRef_o _ | exact hRef_n) rfl ?_
    refine g_ifnonnull (t := 48) (q := 38) C dX4_hang_35 (by decide) rfl (fun y_35 e_35 => ?_) (fun e_35 => ?_)
    · skip
      obtain ⟨f_35, q_35⟩ := hbO_s e_35
      subst q_35
      rw [e_35]
      refine g_iload (q := 50) C dX4_hang_48 rfl rfl ?_
      refine g_iconst (q := 51) (0) C dX4_hang_50 (by decide) rfl ?_
      refine g_bipush (q := 53) (100) C dX4_hang_51 (by decide) rfl ?_
      refine g_callS3P (q := 56) C hy_X4_isWithin (c_X4_isWithin Γ l w 0 100) qw_256 ⟨Nat.le_of_ble_eq_true rfl, Nat.le_of_ble_eq_true rfl⟩ (Nat.le_of_ble_eq_true rfl) rfl dX4_hang_53 ⟨rfl, rfl⟩ ⟨Nat.zero_le _, Nat.zero_le _⟩ rfl ?_
      refine g_ifB_ne (t := 69) (q := 59) C dX4_hang_56 (by decide) rfl (fun c_56 => ?_) (fun c_56 => ?_)
      · skip
        have f_56 : inR 0 100 w = true := c_56
        refine g_aload (q := 71) C dX4_hang_69 rfl (by first | exact hRef_r _ | exact hRef_o _ | exact hRef_n) rfl ?_
        refine g_callV0P (q := 74) C hy_X1_isTaken (c_X1_isTaken Γ l (pF _ hi)) qw_214 (by exact pF _ hi) rfl ⟨Nat.le_of_ble_eq_true rfl, Nat.le_of_ble_eq_true rfl⟩ (Nat.le_of_ble_eq_true rfl) rfl dX4_hang_71 ⟨rfl, rfl⟩ ⟨Nat.zero_le _, Nat.zero_le _⟩ rfl ?_
        refine g_ifB_eq (t := 87) (q := 77) C dX4_hang_74 (by decide) rfl (fun c_74 => ?_) (fun c_74 => ?_)
        · skip
          have f_74 : bTak (sB S (ixOf p q)) = false := (RelV.tk hRV hi).symm.trans c_74
          refine g_aload (q := 89) C dX4_hang_87 rfl (by first | exact hRef_r _ | exact hRef_o _ | exact hRef_n) rfl ?_
          refine g_aload (q := 91) C dX4_hang_89 rfl (by first | exact hRef_r _ | exact hRef_o _ | exact hRef_n) rfl ?_
          refine g_iload (q := 93) C dX4_hang_91 rfl rfl ?_
          refine g_callV2V (q := 96) C hy_X1_receiveNew (c_X1_receiveNew Γ l (some (hb (hNo h))) w (pF _ hi)) qw_519 (by exact pF _ hi) rfl ⟨Nat.le_of_ble_eq_true rfl, Nat.le_of_ble_eq_true rfl⟩ (Nat.le_of_ble_eq_true rfl) rfl dX4_hang_93 ⟨rfl, rfl⟩ ⟨Nat.zero_le _, Nat.zero_le _⟩ rfl (fun M_93 p_93 => ?_)
          subst p_93
          obtain ⟨hF1, hL1, hK1⟩ := hL.put pF hi (some (hb (hNo h)), w, w, 0, 0) (some (hNo h), w, w, 0, 0) rfl (fun _ => rfl)
          have pR1 := hL1.2.2.2.2.2.2.1
          refine g_aload_n (q := 97) C dX4_hang_96 rfl (by first | exact hRef_r _ | exact hRef_o _ | exact hRef_n) rfl ?_
          refine g_get (q := 100) C hcl_X4 2 (by decide) qw_118 rfl dX4_hang_97 (by exact hL1.1) rfl rfl ?_
          refine g_callV0P (q := 103) C hy_X3_bundles (c_X3_bundles Γ l pR1.1 hF1) qw_419 (by exact pR1.1.2.choose_spec.choose_spec.1) rfl ⟨Nat.le_of_ble_eq_true rfl, Nat.le_of_ble_eq_true rfl⟩ (Nat.le_of_ble_eq_true rfl) rfl dX4_hang_100 ⟨rfl, rfl⟩ ⟨Nat.zero_le _, Nat.zero_le _⟩ rfl ?_
          exact g_x (g_iret C dX4_hang_103 (by have e_ : sHang S p q h w = (0, hIt (fCnt (fUp (sB S) (ixOf p q) (some (hNo h), w, w, 0, 0))) 0 40, setB S (fUp (sB S) (ixOf p q) (some (hNo h), w, w, 0, 0))) := (by simp [sHang, f_13, f_35, f_56, f_74]); rw [e_]; exact ⟨rfl, RelV.cnt hL1.2.2.2.2.2.2.2.2.2, hL1.P, hK1.c1⟩) (Nat.zero_le _) (Nat.zero_le _))
        · skip
          have f_74 : bTak (sB S (ixOf p q)) = true := (RelV.tk hRV hi).symm.trans c_74
          exact g_throwS C hl hno hThr_ISE hs_90 ⟨2, by simp [sHang, f_13, f_35, f_56, f_74], rfl⟩ rfl dX4_hang_77 dX4_hang_80 dX4_hang_81 dX4_hang_83 dX4_hang_86 (by decide) (by decide) (by decide) (by decide) (by decide) (by decide)
      · skip
        have f_56 : inR 0 100 w = false := c_56
        exact g_throwS C hl hno hThr_IAE hs_82 ⟨1, by simp [sHang, f_13, f_35, f_56], rfl⟩ rfl dX4_hang_59 dX4_hang_62 dX4_hang_63 dX4_hang_65 dX4_hang_68 (by decide) (by decide) (by decide) (by decide) (by decide) (by decide)
    · skip
      have f_35 := hbO_n e_35
      exact g_throwS C hl hno hThr_IOB hs_80 ⟨0, by simp [sHang, f_13, f_35], rfl⟩ rfl dX4_hang_38 dX4_hang_41 dX4_hang_42 dX4_hang_44 dX4_hang_47 (by decide) (by decide) (by decide) (by decide) (by decide) (by decide)
  · skip
    have f_13 := hkAtO_n e_13
    exact g_throwS C hl hno hThr_IOB hs_73 ⟨0, by simp [sHang, f_13], rfl⟩ rfl dX4_hang_16 dX4_hang_19 dX4_hang_20 dX4_hang_22 dX4_hang_25 (by decide) (by decide) (by decide) (by decide) (by decide) (by decide)
set_option maxRecDepth 100000 in
set_option maxHeartbeats 4000000 in
theorem c_X4_move (Γ : hGam) (l : Launch) {M : hM} {x : Nat} {S : hS} (p q p2 q2 : Int32) (hl : l.stackTraces = false) (hL0 : ltP Γ M x S) (hI : sInv S) : hMetX Γ l yX4_move cX4_move 7 (some .int) rm_X4_move [.ref x, .int p, .int q, .int p2, .int q2] M (hpI (fun a M1 => (sMove S p q p2 q2).1 = 0 ∧ a = (sMove S p q p2 q2).2.1 ∧ ltP Γ M1 x (sMove S p q p2 q2).2.2 ∧ hKp noCls M M1)) (thrN [eIOB, eISE] (sMove S p q p2 q2).1) := by
  obtain ⟨hl9, ol, rk, tr, edh, edo, hb, ob, hk, hk2, V, V2, g0, hL⟩ := hL0
  have hLc := hL
  obtain ⟨pL, pT, pH, pO, nHO, nED, pR, pR2, nHK, hRV⟩ := hLc
  obtain ⟨pRs, FS, pF⟩ := pR
  obtain ⟨pRs2, FS2, pF2⟩ := pR2
  refine hMetX_of (by decide +kernel) (Nat.le_of_ble_eq_true rfl) (hCat_cons rfl (hCat_cons rfl (hCat_cons rfl (hCat_cons rfl (hCat_cons rfl hCat_nil))))) (fun k C hno => ?_)
  show hG _ _ _ _ _ _ _ _ [some (.ref x), some (.int p), some (.int q), some (.int p2), some (.int q2), none, none] _
  refine g_aload_n (q := 1) C dX4_move_0 rfl (by first | exact hRef_r _ | exact hRef_o _ | exact hRef_n) rfl ?_
  refine g_get (q := 4) C hcl_X4 2 (by decide) qw_118 rfl dX4_move_1 (by exact pL) rfl rfl ?_
  refine g_iload_n (q := 5) C dX4_move_4 rfl rfl ?_
  refine g_iload_n (q := 6) C dX4_move_5 rfl rfl ?_
  refine g_callV2O (q := 9) C hy_X3_hookAt (c_X3_hookAt Γ l p q pRs) qw_139 (by exact pRs.2.choose_spec.choose_spec.1) rfl ⟨Nat.le_of_ble_eq_true rfl, Nat.le_of_ble_eq_true rfl⟩ (Nat.le_of_ble_eq_true rfl) rfl dX4_move_6 ⟨rfl, rfl⟩ ⟨Nat.zero_le _, Nat.zero_le _⟩ rfl ?_
  refine g_astore5 (q := 11) C dX4_move_9 (by first | exact hRef_r _ | exact hRef_o _ | exact hRef_n) (by first | rfl | exact hNw_rf _) rfl ?_
  refine g_aload_n (q := 12) C dX4_move_11 rfl (by first | exact hRef_r _ | exact hRef_o _ | exact hRef_n) rfl ?_
  refine g_get (q := 15) C hcl_X4 2 (by decide) qw_118 rfl dX4_move_12 (by exact pL) rfl rfl ?_
  refine g_iload_n (q := 16) C dX4_move_15 rfl rfl ?_
  refine g_iload (q := 18) C dX4_move_16 rfl rfl ?_
  refine g_callV2O (q := 21) C hy_X3_hookAt (c_X3_hookAt Γ l p2 q2 pRs) qw_139 (by exact pRs.2.choose_spec.choose_spec.1) rfl ⟨Nat.le_of_ble_eq_true rfl, Nat.le_of_ble_eq_true rfl⟩ (Nat.le_of_ble_eq_true rfl) rfl dX4_move_18 ⟨rfl, rfl⟩ ⟨Nat.zero_le _, Nat.zero_le _⟩ rfl ?_
  refine g_astore6 (q := 23) C dX4_move_21 (by first | exact hRef_r _ | exact hRef_o _ | exact hRef_n) (by first | rfl | exact hNw_rf _) rfl ?_
  refine g_aload (q := 25) C dX4_move_23 rfl (by first | exact hRef_r _ | exact hRef_o _ | exact hRef_n) rfl ?_
  refine g_ifnull (t := 33) (q := 28) C dX4_move_25 (by decide) rfl (fun e_25 => ?_) (fun y_25 e_25 => ?_)
  · skip
    have f_25 := hkAtO_n e_25
    exact g_throwS C hl hno hThr_IOB hs_73 ⟨0, by simp [sMove, f_25], rfl⟩ rfl dX4_move_33 dX4_move_36 dX4_move_37 dX4_move_39 dX4_move_42 (by decide) (by decide) (by decide) (by decide) (by decide) (by decide)
  · skip
    obtain ⟨f_25, q_25⟩ := hkAtO_s e_25
    subst q_25
    have hi := isHk_lt f_25
    rw [e_25]
    refine g_aload (q := 30) C dX4_move_28 rfl (by first | exact hRef_r _ | exact hRef_o _ | exact hRef_n) rfl ?_
    refine g_ifnonnull (t := 43) (q := 33) C dX4_move_30 (by decide) rfl (fun y_30 e_30 => ?_) (fun e_30 => ?_)
    · skip
      obtain ⟨f_30, q_30⟩ := hkAtO_s e_30
      subst q_30
      have hi2 := isHk_lt f_30
      rw [e_30]
      refine g_aload (q := 45) C dX4_move_43 rfl (by first | exact hRef_r _ | exact hRef_o _ | exact hRef_n) rfl ?_
      refine g_callV0P (q := 48) C hy_X1_isTaken (c_X1_isTaken Γ l (pF _ hi)) qw_214 (by exact pF _ hi) rfl ⟨Nat.le_of_ble_eq_true rfl, Nat.le_of_ble_eq_true rfl⟩ (Nat.le_of_ble_eq_true rfl) rfl dX4_move_45 ⟨rfl, rfl⟩ ⟨Nat.zero_le _, Nat.zero_le _⟩ rfl ?_
      refine g_ifB_ne (t := 61) (q := 51) C dX4_move_48 (by decide) rfl (fun c_48 => ?_) (fun c_48 => ?_)
      · skip
        have f_48 : bTak (sB S (ixOf p q)) = true := (RelV.tk hRV hi).symm.trans c_48
        refine g_aload (q := 63) C dX4_move_61 rfl (by first | exact hRef_r _ | exact hRef_o _ | exact hRef_n) rfl ?_
        refine g_callV0P (q := 66) C hy_X1_isTaken (c_X1_isTaken Γ l (pF _ hi2)) qw_214 (by exact pF _ hi2) rfl ⟨Nat.le_of_ble_eq_true rfl, Nat.le_of_ble_eq_true rfl⟩ (Nat.le_of_ble_eq_true rfl) rfl dX4_move_63 ⟨rfl, rfl⟩ ⟨Nat.zero_le _, Nat.zero_le _⟩ rfl ?_
        refine g_ifB_eq (t := 79) (q := 69) C dX4_move_66 (by decide) rfl (fun c_66 => ?_) (fun c_66 => ?_)
        · skip
          have f_66 : bTak (sB S (ixOf p2 q2)) = false := (RelV.tk hRV hi2).symm.trans c_66
          refine g_aload (q := 81) C dX4_move_79 rfl (by first | exact hRef_r _ | exact hRef_o _ | exact hRef_n) rfl ?_
          refine g_aload (q := 83) C dX4_move_81 rfl (by first | exact hRef_r _ | exact hRef_o _ | exact hRef_n) rfl ?_
          refine g_callV1V (q := 86) C hy_X1_copyBundleOf (c_X1_copyBundleOf Γ l (pF _ hi2) (pF _ hi) (fun q => by have := pRs.1 _ _ hi hi2 q; rw [this, f_66] at f_48; cases f_48)) qw_235 (by exact pF _ hi2) rfl ⟨Nat.le_of_ble_eq_true rfl, Nat.le_of_ble_eq_true rfl⟩ (Nat.le_of_ble_eq_true rfl) rfl dX4_move_83 ⟨rfl, rfl⟩ ⟨Nat.zero_le _, Nat.zero_le _⟩ rfl (fun M_83 p_83 => ?_)
          subst p_83
          obtain ⟨hF1, hL1, hK1⟩ := hL.put pF hi2 (V (ixOf p q)) (sB S (ixOf p q)) (hRV _ hi).1 (hRV _ hi).2
          refine g_aload (q := 88) C dX4_move_86 rfl (by first | exact hRef_r _ | exact hRef_o _ | exact hRef_n) rfl ?_
          refine g_callV0V (q := 91) C hy_X1_clear (c_X1_clear Γ l (hF1 _ hi)) qw_239 (by exact hF1 _ hi) rfl ⟨Nat.le_of_ble_eq_true rfl, Nat.le_of_ble_eq_true rfl⟩ (Nat.le_of_ble_eq_true rfl) rfl dX4_move_88 ⟨rfl, rfl⟩ ⟨Nat.zero_le _, Nat.zero_le _⟩ rfl (fun M_88 p_88 => ?_)
          subst p_88
          obtain ⟨hF2, hL2, hK2⟩ := hL1.put hF1 hi emp emp rfl (fun q => absurd rfl q)
          refine g_aload (q := 93) C dX4_move_91 rfl (by first | exact hRef_r _ | exact hRef_o _ | exact hRef_n) rfl ?_
          refine g_callV0P (q := 96) C hy_X1_neighbours (c_X1_neighbours Γ l (hF2 _ hi2) (hF2.bef hi2) (hF2.aft hi2)) qw_247 (by exact hF2 _ hi2) rfl ⟨Nat.le_of_ble_eq_true rfl, Nat.le_of_ble_eq_true rfl⟩ (Nat.le_of_ble_eq_true rfl) rfl dX4_move_93 ⟨rfl, rfl⟩ ⟨Nat.zero_le _, Nat.zero_le _⟩ rfl ?_
          exact g_x (g_iret C dX4_move_96 (by have e_ : sMove S p q p2 q2 = (0, nbrs (fUp (fUp (sB S) (ixOf p2 q2) (sB S (ixOf p q))) (ixOf p q) emp) (ixOf p2 q2), setB S (fUp (fUp (sB S) (ixOf p2 q2) (sB S (ixOf p q))) (ixOf p q) emp)) := (by simp [sMove, f_25, f_30, f_48, f_66]); rw [e_]; exact ⟨rfl, nTak_nb.trans (RelV.nbre hL2.2.2.2.2.2.2.2.2.2 hi2), hL2.P, (hK1.tr hK2).c1⟩) (Nat.zero_le _) (Nat.zero_le _))
        · skip
          have f_66 : bTak (sB S (ixOf p2 q2)) = true := (RelV.tk hRV hi2).symm.trans c_66
          exact g_throwS C hl hno hThr_ISE hs_109 ⟨1, by simp [sMove, f_25, f_30, f_48, f_66], rfl⟩ rfl dX4_move_69 dX4_move_72 dX4_move_73 dX4_move_75 dX4_move_78 (by decide) (by decide) (by decide) (by decide) (by decide) (by decide)
      · skip
        have f_48 : bTak (sB S (ixOf p q)) = false := (RelV.tk hRV hi).symm.trans c_48
        exact g_throwS C hl hno hThr_ISE hs_107 ⟨1, by simp [sMove, f_25, f_30, f_48], rfl⟩ rfl dX4_move_51 dX4_move_54 dX4_move_55 dX4_move_57 dX4_move_60 (by decide) (by decide) (by decide) (by decide) (by decide) (by decide)
    · skip
      have f_30 := hkAtO_n e_30
      exact g_throwS C hl hno hThr_IOB hs_73 ⟨0, by simp [sMove, f_25, f_30], rfl⟩ rfl dX4_move_33 dX4_move_36 dX4_move_37 dX4_move_39 dX4_move_42 (by decide) (by decide) (by decide) (by decide) (by decide) (by decide)
set_option maxRecDepth 100000 in
set_option maxHeartbeats 4000000 in
theorem c_X4_turn (Γ : hGam) (l : Launch) {M : hM} {x : Nat} {S : hS} (p : Int32) (hl : l.stackTraces = false) (hL0 : ltP Γ M x S) (hI : sInv S) : hMetX Γ l yX4_turn cX4_turn 2 (some .int) rm_X4_turn [.ref x, .int p] M (hpI (fun a M1 => (sTurn S p).1 = 0 ∧ a = (sTurn S p).2.1 ∧ ltP Γ M1 x (sTurn S p).2.2 ∧ hKp noCls M M1)) (thrN [eIOB] (sTurn S p).1) := by
  obtain ⟨hl9, ol, rk, tr, edh, edo, hb, ob, hk, hk2, V, V2, g0, hL⟩ := hL0
  have hLc := hL
  obtain ⟨pL, pT, pH, pO, nHO, nED, pR, pR2, nHK, hRV⟩ := hLc
  obtain ⟨pRs, FS, pF⟩ := pR
  obtain ⟨pRs2, FS2, pF2⟩ := pR2
  refine hMetX_of (by decide +kernel) (Nat.le_of_ble_eq_true rfl) (hCat_cons rfl (hCat_cons rfl hCat_nil)) (fun k C hno => ?_)
  show hG _ _ _ _ _ _ _ _ [some (.ref x), some (.int p)] _
  refine g_iload_n (q := 1) C dX4_turn_0 rfl rfl ?_
  refine g_iconst (q := 2) (0) C dX4_turn_1 (by decide) rfl ?_
  refine g_iconst (q := 3) (4) C dX4_turn_2 (by decide) rfl ?_
  refine g_callS3P (q := 6) C hy_X4_isWithin (c_X4_isWithin Γ l p 0 4) qw_256 ⟨Nat.le_of_ble_eq_true rfl, Nat.le_of_ble_eq_true rfl⟩ (Nat.le_of_ble_eq_true rfl) rfl dX4_turn_3 ⟨rfl, rfl⟩ ⟨Nat.zero_le _, Nat.zero_le _⟩ rfl ?_
  refine g_ifB_ne (t := 19) (q := 9) C dX4_turn_6 (by decide) rfl (fun c_6 => ?_) (fun c_6 => ?_)
  · skip
    have f_6 : inStr p = true := c_6
    obtain ⟨sn_, hsn, rfl⟩ := h_rng f_6 rfl (N := 4) rfl
    refine g_aload_n (q := 20) C dX4_turn_19 rfl (by first | exact hRef_r _ | exact hRef_o _ | exact hRef_n) rfl ?_
    refine g_get (q := 23) C hcl_X4 2 (by decide) qw_118 rfl dX4_turn_20 (by exact pL) rfl rfl ?_
    refine g_iload_n (q := 24) C dX4_turn_23 rfl rfl ?_
    refine g_callV1I (q := 27) C hy_X3_turnAllOn (c_X3_turnAllOn Γ l pRs pF (show sn_ < 5 by omega)) qw_258 (by exact pRs.2.choose_spec.choose_spec.1) rfl ⟨Nat.le_of_ble_eq_true rfl, Nat.le_of_ble_eq_true rfl⟩ (Nat.le_of_ble_eq_true rfl) rfl dX4_turn_24 ⟨rfl, rfl⟩ ⟨Nat.zero_le _, Nat.zero_le _⟩ rfl (fun x_24 M_24 p_24 => ?_)
    obtain ⟨p_24, hF1, ho⟩ := p_24
    subst p_24
    obtain ⟨hL1, hK1⟩ := hL.rack pF hF1 ho (RelV.turn hRV sn_)
    exact g_x (g_iret C dX4_turn_27 (by have e_ : sTurn S (nI sn_) = (0, hIt (fTurn sn_ (sB S)) 0 40, setB S (vTurn sn_ (sB S))) := (by simp [sTurn, show hNo (nI sn_) = sn_ from nI_clamp (by omega), f_6]); rw [e_]; exact ⟨rfl, RelV.turne hRV sn_, hL1.P, hK1.c1⟩) (Nat.zero_le _) (Nat.zero_le _))
  · skip
    have f_6 : inStr p = false := c_6
    exact g_throwS C hl hno hThr_IOB hs_118 ⟨0, by simp [sTurn, f_6], rfl⟩ rfl dX4_turn_9 dX4_turn_12 dX4_turn_13 dX4_turn_15 dX4_turn_18 (by decide) (by decide) (by decide) (by decide) (by decide) (by decide)
set_option maxRecDepth 100000 in
set_option maxHeartbeats 4000000 in
theorem c_X4_setWindow (Γ : hGam) (l : Launch) {M : hM} {x : Nat} {S : hS} (p : Int32) (hl : l.stackTraces = false) (hL0 : ltP Γ M x S) (hI : sInv S) : hMetX Γ l yX4_setWindow cX4_setWindow 3 (some .int) rm_X4_setWindow [.ref x, .int p] M (hpI (fun a M1 => (sSetW S p).1 = 0 ∧ a = (sSetW S p).2.1 ∧ ltP Γ M1 x (sSetW S p).2.2 ∧ hKp noCls M M1)) (thrN [eIAE] (sSetW S p).1) := by
  obtain ⟨hl9, ol, rk, tr, edh, edo, hb, ob, hk, hk2, V, V2, g0, hL⟩ := hL0
  have hLc := hL
  obtain ⟨pL, pT, pH, pO, nHO, nED, pR, pR2, nHK, hRV⟩ := hLc
  obtain ⟨pRs, FS, pF⟩ := pR
  obtain ⟨pRs2, FS2, pF2⟩ := pR2
  refine hMetX_of (by decide +kernel) (Nat.le_of_ble_eq_true rfl) (hCat_cons rfl (hCat_cons rfl hCat_nil)) (fun k C hno => ?_)
  show hG _ _ _ _ _ _ _ _ [some (.ref x), some (.int p), none] _
  refine g_iload_n (q := 1) C dX4_setWindow_0 rfl rfl ?_
  refine g_iconst (q := 2) (0) C dX4_setWindow_1 (by decide) rfl ?_
  refine g_iconst (q := 3) (3) C dX4_setWindow_2 (by decide) rfl ?_
  refine g_callS3P (q := 6) C hy_X4_isWithin (c_X4_isWithin Γ l p 0 3) qw_256 ⟨Nat.le_of_ble_eq_true rfl, Nat.le_of_ble_eq_true rfl⟩ (Nat.le_of_ble_eq_true rfl) rfl dX4_setWindow_3 ⟨rfl, rfl⟩ ⟨Nat.zero_le _, Nat.zero_le _⟩ rfl ?_
  refine g_ifB_ne (t := 19) (q := 9) C dX4_setWindow_6 (by decide) rfl (fun c_6 => ?_) (fun c_6 => ?_)
  · skip
    have f_6 : inR 0 3 p = true := c_6
    refine g_aload_n (q := 20) C dX4_setWindow_19 rfl (by first | exact hRef_r _ | exact hRef_o _ | exact hRef_n) rfl ?_
    refine g_get (q := 23) C hcl_X4 4 (by decide) qw_120 rfl dX4_setWindow_20 (by exact pL) rfl rfl ?_
    refine g_istore2 (q := 24) C dX4_setWindow_23 (by first | rfl | exact hNw_rf _) rfl ?_
    refine g_aload_n (q := 25) C dX4_setWindow_24 rfl (by first | exact hRef_r _ | exact hRef_o _ | exact hRef_n) rfl ?_
    refine g_iload_n (q := 26) C dX4_setWindow_25 rfl rfl ?_
    refine g_put (q := 29) C hcl_X4 4 (by decide) qw_120 rfl rfl rfl rfl dX4_setWindow_26 (by exact pL) (Nat.le_of_ble_eq_true rfl) rfl ?_
    (try rw [hU_2])
    obtain ⟨hL1, hK1⟩ := hL.cell p (sDay S)
    refine g_iload_n (q := 30) C dX4_setWindow_29 rfl rfl ?_
    exact g_x (g_iret C dX4_setWindow_30 (by have e_ : sSetW S p = (0, sWin S, (S.1, S.2.1, S.2.2.1, p, S.2.2.2.2)) := (by simp [sSetW, f_6]); rw [e_]; exact ⟨rfl, rfl, hL1.P, hK1.c2⟩) (Nat.zero_le _) (Nat.zero_le _))
  · skip
    have f_6 : inR 0 3 p = false := c_6
    exact g_throwS C hl hno hThr_IAE hs_124 ⟨0, by simp [sSetW, f_6], rfl⟩ rfl dX4_setWindow_9 dX4_setWindow_12 dX4_setWindow_13 dX4_setWindow_15 dX4_setWindow_18 (by decide) (by decide) (by decide) (by decide) (by decide) (by decide)
set_option maxRecDepth 100000 in
set_option maxHeartbeats 4000000 in
theorem c_X4_pass (Γ : hGam) (l : Launch) {M : hM} {x : Nat} {S : hS} (d dmp : Int32) (hl : l.stackTraces = false) (hL0 : ltP Γ M x S) (hI : sInv S) : hMetX Γ l yX4_pass cX4_pass 3 (some .int) rm_X4_pass [.ref x, .int d, .int dmp] M (hpI (fun a M1 => (sPass S d dmp).1 = 0 ∧ a = (sPass S d dmp).2.1 ∧ ltP Γ M1 x (sPass S d dmp).2.2 ∧ hKp noCls M M1)) (thrN [eIAE] (sPass S d dmp).1) := by
  obtain ⟨hl9, ol, rk, tr, edh, edo, hb, ob, hk, hk2, V, V2, g0, hL⟩ := hL0
  have hLc := hL
  obtain ⟨pL, pT, pH, pO, nHO, nED, pR, pR2, nHK, hRV⟩ := hLc
  obtain ⟨pRs, FS, pF⟩ := pR
  obtain ⟨pRs2, FS2, pF2⟩ := pR2
  refine hMetX_of (by decide +kernel) (Nat.le_of_ble_eq_true rfl) (hCat_cons rfl (hCat_cons rfl (hCat_cons rfl hCat_nil))) (fun k C hno => ?_)
  show hG _ _ _ _ _ _ _ _ [some (.ref x), some (.int d), some (.int dmp)] _
  refine g_iload_n (q := 1) C dX4_pass_0 rfl rfl ?_
  refine g_iconst (q := 2) (1) C dX4_pass_1 (by decide) rfl ?_
  refine g_bipush (q := 4) (60) C dX4_pass_2 (by decide) rfl ?_
  refine g_callS3P (q := 7) C hy_X4_isWithin (c_X4_isWithin Γ l d 1 60) qw_256 ⟨Nat.le_of_ble_eq_true rfl, Nat.le_of_ble_eq_true rfl⟩ (Nat.le_of_ble_eq_true rfl) rfl dX4_pass_4 ⟨rfl, rfl⟩ ⟨Nat.zero_le _, Nat.zero_le _⟩ rfl ?_
  refine g_ifB_ne (t := 20) (q := 10) C dX4_pass_7 (by decide) rfl (fun c_7 => ?_) (fun c_7 => ?_)
  · skip
    have f_7 : inR 1 60 d = true := c_7
    refine g_iload_n (q := 21) C dX4_pass_20 rfl rfl ?_
    refine g_iconst (q := 22) (0) C dX4_pass_21 (by decide) rfl ?_
    refine g_bipush (q := 24) (9) C dX4_pass_22 (by decide) rfl ?_
    refine g_callS3P (q := 27) C hy_X4_isWithin (c_X4_isWithin Γ l dmp 0 9) qw_256 ⟨Nat.le_of_ble_eq_true rfl, Nat.le_of_ble_eq_true rfl⟩ (Nat.le_of_ble_eq_true rfl) rfl dX4_pass_24 ⟨rfl, rfl⟩ ⟨Nat.zero_le _, Nat.zero_le _⟩ rfl ?_
    refine g_ifB_ne (t := 40) (q := 30) C dX4_pass_27 (by decide) rfl (fun c_27 => ?_) (fun c_27 => ?_)
    · skip
      have f_27 : inR 0 9 dmp = true := c_27
      obtain ⟨dn_, hdn, rfl⟩ := inR_nI f_7 (by decide) (N := 60) rfl
      refine g_aload_n (q := 41) C dX4_pass_40 rfl (by first | exact hRef_r _ | exact hRef_o _ | exact hRef_n) rfl ?_
      refine g_get (q := 44) C hcl_X4 2 (by decide) qw_118 rfl dX4_pass_41 (by exact pL) rfl rfl ?_
      refine g_iload_n (q := 45) C dX4_pass_44 rfl rfl ?_
      refine g_aload_n (q := 46) C dX4_pass_45 rfl (by first | exact hRef_r _ | exact hRef_o _ | exact hRef_n) rfl ?_
      refine g_get (q := 49) C hcl_X4 4 (by decide) qw_120 rfl dX4_pass_46 (by exact pL) rfl rfl ?_
      refine g_iload_n (q := 50) C dX4_pass_49 rfl rfl ?_
      refine g_callV3V (q := 53) C hy_X3_letDaysGo (c_X3_letDaysGo Γ l (sWin S) dmp pRs pF (hbF.of hL hI (fun _ _ => rfl)) (show dn_ < 1000 by omega)) qw_333 (by exact pRs.2.choose_spec.choose_spec.1) rfl ⟨Nat.le_of_ble_eq_true rfl, Nat.le_of_ble_eq_true rfl⟩ (Nat.le_of_ble_eq_true rfl) rfl dX4_pass_50 ⟨rfl, rfl⟩ ⟨Nat.zero_le _, Nat.zero_le _⟩ rfl (fun M_50 p_50 => ?_)
      obtain ⟨⟨FS1, hF1⟩, ho⟩ := p_50
      obtain ⟨hL1, hK1⟩ := hL.rack pF hF1 ho (hL.days hI hRV hI.lt (sWin S) dmp dn_)
      refine g_aload_n (q := 54) C dX4_pass_53 rfl (by first | exact hRef_r _ | exact hRef_o _ | exact hRef_n) rfl ?_
      refine g_dup (q := 55) C dX4_pass_54 rfl rfl ?_
      refine g_get (q := 58) C hcl_X4 5 (by decide) qw_121 rfl dX4_pass_55 (by exact hL1.1) rfl rfl ?_
      refine g_iload_n (q := 59) C dX4_pass_58 rfl rfl ?_
      refine g_iadd (q := 60) C dX4_pass_59 rfl ?_
      refine g_put (q := 63) C hcl_X4 5 (by decide) qw_121 rfl rfl rfl rfl dX4_pass_60 (by exact hL1.1) (Nat.le_of_ble_eq_true rfl) rfl ?_
      (try rw [hU_2])
      obtain ⟨hL2, hK2⟩ := hL1.cell (sWin S) (sDay S + nI dn_)
      obtain ⟨pR2s, FSs, pF2s⟩ := hL2.2.2.2.2.2.2.1
      refine g_aload_n (q := 64) C dX4_pass_63 rfl (by first | exact hRef_r _ | exact hRef_o _ | exact hRef_n) rfl ?_
      refine g_get (q := 67) C hcl_X4 2 (by decide) qw_118 rfl dX4_pass_64 (by exact hL2.1) rfl rfl ?_
      refine g_callV0P (q := 70) C hy_X3_mouldyBundles (c_X3_mouldyBundles Γ l pR2s pF2s) qw_363 (by exact pR2s.2.choose_spec.choose_spec.1) rfl ⟨Nat.le_of_ble_eq_true rfl, Nat.le_of_ble_eq_true rfl⟩ (Nat.le_of_ble_eq_true rfl) rfl dX4_pass_67 ⟨rfl, rfl⟩ ⟨Nat.zero_le _, Nat.zero_le _⟩ rfl ?_
      exact g_x (g_iret C dX4_pass_70 (by have e_ : sPass S (nI dn_) dmp = (0, hIt (fBad (vDays (sE S) (sL S) (sWin S) dmp (sB S) dn_)) 0 40, (S.1, S.2.1, vDays (sE S) (sL S) (sWin S) dmp (sB S) dn_, S.2.2.2.1, S.2.2.2.2 + nI dn_)) := (by simp [sPass, sAft, show hNo (nI dn_) = dn_ from nI_clamp (by omega), f_7, f_27]); rw [e_]; exact ⟨rfl, RelV.bad hL2.2.2.2.2.2.2.2.2.2, hL2.P, hK1.c1.tr hK2.c2⟩) (Nat.zero_le _) (Nat.zero_le _))
    · skip
      have f_27 : inR 0 9 dmp = false := c_27
      exact g_throwS C hl hno hThr_IAE hs_147 ⟨0, by simp [sPass, f_7, f_27], rfl⟩ rfl dX4_pass_30 dX4_pass_33 dX4_pass_34 dX4_pass_36 dX4_pass_39 (by decide) (by decide) (by decide) (by decide) (by decide) (by decide)
  · skip
    have f_7 : inR 1 60 d = false := c_7
    exact g_throwS C hl hno hThr_IAE hs_145 ⟨0, by simp [sPass, f_7], rfl⟩ rfl dX4_pass_10 dX4_pass_13 dX4_pass_14 dX4_pass_16 dX4_pass_19 (by decide) (by decide) (by decide) (by decide) (by decide) (by decide)
set_option maxRecDepth 100000 in
set_option maxHeartbeats 4000000 in
theorem c_X4_told (Γ : hGam) (l : Launch) {M : hM} {x : Nat} {S : hS} (p q w : Int32) (hl : l.stackTraces = false) (hL0 : ltP Γ M x S) (hI : sInv S) : hMetX Γ l yX4_told cX4_told 5 (some .int) rm_X4_told [.ref x, .int p, .int q, .int w] M (hpI (fun a M1 => (sTold S p q w).1 = 0 ∧ a = (sTold S p q w).2 ∧ M1 = M)) (thrN [eIOB] (sTold S p q w).1) := by
  obtain ⟨hl9, ol, rk, tr, edh, edo, hb, ob, hk, hk2, V, V2, g0, hL⟩ := hL0
  have hLc := hL
  obtain ⟨pL, pT, pH, pO, nHO, nED, pR, pR2, nHK, hRV⟩ := hLc
  obtain ⟨pRs, FS, pF⟩ := pR
  obtain ⟨pRs2, FS2, pF2⟩ := pR2
  refine hMetX_of (by decide +kernel) (Nat.le_of_ble_eq_true rfl) (hCat_cons rfl (hCat_cons rfl (hCat_cons rfl (hCat_cons rfl hCat_nil)))) (fun k C hno => ?_)
  show hG _ _ _ _ _ _ _ _ [some (.ref x), some (.int p), some (.int q), some (.int w), none] _
  refine g_aload_n (q := 1) C dX4_told_0 rfl (by first | exact hRef_r _ | exact hRef_o _ | exact hRef_n) rfl ?_
  refine g_get (q := 4) C hcl_X4 2 (by decide) qw_118 rfl dX4_told_1 (by exact pL) rfl rfl ?_
  refine g_iload_n (q := 5) C dX4_told_4 rfl rfl ?_
  refine g_iload_n (q := 6) C dX4_told_5 rfl rfl ?_
  refine g_callV2O (q := 9) C hy_X3_hookAt (c_X3_hookAt Γ l p q pRs) qw_139 (by exact pRs.2.choose_spec.choose_spec.1) rfl ⟨Nat.le_of_ble_eq_true rfl, Nat.le_of_ble_eq_true rfl⟩ (Nat.le_of_ble_eq_true rfl) rfl dX4_told_6 ⟨rfl, rfl⟩ ⟨Nat.zero_le _, Nat.zero_le _⟩ rfl ?_
  refine g_astore4 (q := 11) C dX4_told_9 (by first | exact hRef_r _ | exact hRef_o _ | exact hRef_n) (by first | rfl | exact hNw_rf _) rfl ?_
  refine g_aload (q := 13) C dX4_told_11 rfl (by first | exact hRef_r _ | exact hRef_o _ | exact hRef_n) rfl ?_
  refine g_ifnonnull (t := 26) (q := 16) C dX4_told_13 (by decide) rfl (fun y_13 e_13 => ?_) (fun e_13 => ?_)
  · skip
    obtain ⟨f_13, q_13⟩ := hkAtO_s e_13
    subst q_13
    have hi := isHk_lt f_13
    rw [e_13]
    refine g_iload_n (q := 27) C dX4_told_26 rfl rfl ?_
    refine g_iconst (q := 28) (0) C dX4_told_27 (by decide) rfl ?_
    refine g_bipush (q := 30) (7) C dX4_told_28 (by decide) rfl ?_
    refine g_callS3P (q := 33) C hy_X4_isWithin (c_X4_isWithin Γ l w 0 7) qw_256 ⟨Nat.le_of_ble_eq_true rfl, Nat.le_of_ble_eq_true rfl⟩ (Nat.le_of_ble_eq_true rfl) rfl dX4_told_30 ⟨rfl, rfl⟩ ⟨Nat.zero_le _, Nat.zero_le _⟩ rfl ?_
    refine g_ifB_ne (t := 46) (q := 36) C dX4_told_33 (by decide) rfl (fun c_33 => ?_) (fun c_33 => ?_)
    · skip
      have f_33 : inR 0 7 w = true := c_33
      refine g_aload (q := 48) C dX4_told_46 rfl (by first | exact hRef_r _ | exact hRef_o _ | exact hRef_n) rfl ?_
      refine g_iload_n (q := 49) C dX4_told_48 rfl rfl ?_
      refine g_callV1P (q := 52) C hy_X1_tells (c_X1_tells Γ l w (pF _ hi) (pF.bef hi) (pF.aft hi) (hL.num hI hi)) qw_376 (by exact pF _ hi) rfl ⟨Nat.le_of_ble_eq_true rfl, Nat.le_of_ble_eq_true rfl⟩ (Nat.le_of_ble_eq_true rfl) rfl dX4_told_49 ⟨rfl, rfl⟩ ⟨Nat.zero_le _, Nat.zero_le _⟩ rfl ?_
      exact g_x (g_iret C dX4_told_52 (by have e_ : sTold S p q w = (0, tellI (sB S) (ixOf p q) w) := (by simp [sTold, f_13, f_33]); rw [e_]; exact ⟨rfl, RelV.tele hRV hi w, rfl⟩) (Nat.zero_le _) (Nat.zero_le _))
    · skip
      have f_33 : inR 0 7 w = false := c_33
      exact g_throwS C hl hno hThr_IOB hs_155 ⟨0, by simp [sTold, f_13, f_33], rfl⟩ rfl dX4_told_36 dX4_told_39 dX4_told_40 dX4_told_42 dX4_told_45 (by decide) (by decide) (by decide) (by decide) (by decide) (by decide)
  · skip
    have f_13 := hkAtO_n e_13
    exact g_throwS C hl hno hThr_IOB hs_73 ⟨0, by simp [sTold, f_13], rfl⟩ rfl dX4_told_16 dX4_told_19 dX4_told_20 dX4_told_22 dX4_told_25 (by decide) (by decide) (by decide) (by decide) (by decide) (by decide)
