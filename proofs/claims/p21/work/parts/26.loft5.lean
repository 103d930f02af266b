set_option maxRecDepth 100000 in
set_option maxHeartbeats 4000000 in
theorem c_X4_herb (Γ : hGam) (l : Launch) {M : hM} {x : Nat} {S : hS} (e lm : Int32) (hl : l.stackTraces = false) (hL0 : ltP Γ M x S) (hI : sInv S) : hMetX Γ l yX4_herb cX4_herb 4 (some .int) rm_X4_herb [.ref x, .int e, .int lm] M (hpI (fun a M1 => (sHerb S e lm).1 = 0 ∧ a = (sHerb S e lm).2.1 ∧ ltP Γ M1 x (sHerb S e lm).2.2 ∧ hKp noCls M M1)) (thrN [eIAE, eISE] (sHerb S e lm).1) := by
  obtain ⟨hl9, ol, rk, tr, edh, edo, hb, ob, hk, hk2, V, V2, g0, hL⟩ := hL0
  have hLc := hL
  obtain ⟨pL, pT, pH, pO, nHO, nED, pR, pR2, nHK, hRV⟩ := hLc
  obtain ⟨pRs, FS, pF⟩ := pR
  obtain ⟨pRs2, FS2, pF2⟩ := pR2
  refine hMetX_of (by decide +kernel) (Nat.le_of_ble_eq_true rfl) (hCat_cons rfl (hCat_cons rfl (hCat_cons rfl hCat_nil))) (fun k C hno => ?_)
  show hG _ _ _ _ _ _ _ _ [some (.ref x), some (.int e), some (.int lm), none] _
  refine g_iload_n (q := 1) C dX4_herb_0 rfl rfl ?_
  refine g_iconst (q := 2) (1) C dX4_herb_1 (by decide) rfl ?_
  refine g_bipush (q := 4) (9) C dX4_herb_2 (by decide) rfl ?_
  refine g_callS3P (q := 7) C hy_X4_isWithin (c_X4_isWithin Γ l e 1 9) qw_256 ⟨Nat.le_of_ble_eq_true rfl, Nat.le_of_ble_eq_true rfl⟩ (Nat.le_of_ble_eq_true rfl) rfl dX4_herb_4 ⟨rfl, rfl⟩ ⟨(by decide), (by decide)⟩ rfl ?_
  refine g_ifB_ne (t := 20) (q := 10) C dX4_herb_7 (by decide) rfl (fun c_7 => ?_) (fun c_7 => ?_)
  · skip
    have f_7 : inR 1 9 e = true := c_7
    refine g_iload_n (q := 21) C dX4_herb_20 rfl rfl ?_
    refine g_bipush (q := 23) (20) C dX4_herb_21 (by decide) rfl ?_
    refine g_bipush (q := 25) (90) C dX4_herb_23 (by decide) rfl ?_
    refine g_callS3P (q := 28) C hy_X4_isWithin (c_X4_isWithin Γ l lm 20 90) qw_256 ⟨Nat.le_of_ble_eq_true rfl, Nat.le_of_ble_eq_true rfl⟩ (Nat.le_of_ble_eq_true rfl) rfl dX4_herb_25 ⟨rfl, rfl⟩ ⟨(by decide), (by decide)⟩ rfl ?_
    refine g_ifB_ne (t := 41) (q := 31) C dX4_herb_28 (by decide) rfl (fun c_28 => ?_) (fun c_28 => ?_)
    · skip
      have f_28 : inR 20 90 lm = true := c_28
      refine g_aload_n (q := 42) C dX4_herb_41 rfl (by first | exact hRef_r _ | exact hRef_o _ | exact hRef_n) rfl ?_
      refine g_get (q := 45) C hcl_X4 0 (by decide) qw_116 rfl dX4_herb_42 (by exact pL) rfl rfl ?_
      refine g_callV0P (q := 48) C hy_Jx4a65c_size_8abf5 (c_Jx4a65c_size_8abf5 Γ l pH.1) qw_271 (by exact pH.1.choose_spec.choose_spec.choose_spec.choose_spec.1) rfl ⟨Nat.le_of_ble_eq_true rfl, Nat.le_of_ble_eq_true rfl⟩ (Nat.le_of_ble_eq_true rfl) rfl dX4_herb_45 ⟨rfl, rfl⟩ ⟨(by decide), (by decide)⟩ rfl ?_
      refine g_bipush (q := 50) (6) C dX4_herb_48 (by decide) rfl ?_
      refine g_icmp_lt (t := 63) (q := 53) C dX4_herb_50 (by decide) rfl (fun c_50 => ?_) (fun c_50 => ?_)
      · skip
        have hn6 := hI.1
        have f_50 : sN S < 6 := (nI_ltI (a := sN S) (b := 6) (by omega) (by decide)).mp c_50
        refine g_aload_n (q := 64) C dX4_herb_63 rfl (by first | exact hRef_r _ | exact hRef_o _ | exact hRef_n) rfl ?_
        refine g_get (q := 67) C hcl_X4 0 (by decide) qw_116 rfl dX4_herb_64 (by exact pL) rfl rfl ?_
        refine g_callV0P (q := 70) C hy_Jx4a65c_size_8abf5 (c_Jx4a65c_size_8abf5 Γ l pH.1) qw_271 (by exact pH.1.choose_spec.choose_spec.choose_spec.choose_spec.1) rfl ⟨Nat.le_of_ble_eq_true rfl, Nat.le_of_ble_eq_true rfl⟩ (Nat.le_of_ble_eq_true rfl) rfl dX4_herb_67 ⟨rfl, rfl⟩ ⟨(by decide), (by decide)⟩ rfl ?_
        refine g_istore3 (q := 71) C dX4_herb_70 (by first | rfl | exact hNw_rf _) rfl ?_
        refine g_aload_n (q := 72) C dX4_herb_71 rfl (by first | exact hRef_r _ | exact hRef_o _ | exact hRef_n) rfl ?_
        refine g_get (q := 75) C hcl_X4 0 (by decide) qw_116 rfl dX4_herb_72 (by exact pL) rfl rfl ?_
        refine g_new (q := 78) C hcl_X0 qw_389 qw_666 qw_22 hfs_X0 (by decide) (by decide) dX4_herb_75 rfl (fun b eb => ?_)
        refine g_dup (q := 79) C dX4_herb_78 rfl rfl ?_
        refine g_iload_n (q := 80) C dX4_herb_79 rfl rfl ?_
        refine g_iload_n (q := 81) C dX4_herb_80 rfl rfl ?_
        refine g_iload_n (q := 82) C dX4_herb_81 rfl rfl ?_
        refine g_callI3V (q := 85) C hy_X0_init (c_X0_init Γ l (nI (sN S)) e lm (hU_s _ _ _)) qw_667 ⟨Nat.le_of_ble_eq_true rfl, Nat.le_of_ble_eq_true rfl⟩ (Nat.le_of_ble_eq_true rfl) rfl dX4_herb_82 ⟨rfl, rfl⟩ ⟨(by decide), (by decide)⟩ rfl (fun M_82 p_82 => ?_)
        rw [hU_2] at p_82
        subst p_82
        have hls : lsP Γ (hU M b (oHerb (nI (sN S)) e lm)) hl9 edh (sN S) hb := pH.1.kp (hKp.rf.new eb : hKp (fun _ => true) M _) rfl ⟨rfl, rfl⟩
        have hvna : b ≠ hl9 := fun q => by obtain ⟨_, _, _, _, z1, _⟩ := pH.1.d; rw [← q, eb] at z1; cases z1
        have hro : edh = Γ.2.2.1 → ∀ x, hU M b (oHerb (nI (sN S)) e lm) edh ≠ some (true, x) := fun q x z => by rw [q, hU_n (fun q2 => by rw [q2, eb] at pT; cases pT), pT] at z; cases z
        refine g_callV1Im (q := 88) C hy_Jx4a65c_add_9ea2d (c_Jx4a65c_add_9ea2d Γ l hls f_50 (hU_s _ _ _) (r := (RX0, TX0, 3)) rfl qw_696 hvna hro) qw_572 (by exact hls.choose_spec.choose_spec.choose_spec.choose_spec.1) rfl ⟨Nat.le_of_ble_eq_true rfl, Nat.le_of_ble_eq_true rfl⟩ (Nat.le_of_ble_eq_true rfl) rfl dX4_herb_85 ⟨(by decide), (by decide)⟩ rfl (fun x_85 M_85 p_85 => ?_)
        obtain ⟨-, ed2, q1, q2, q3⟩ := p_85
        obtain ⟨hP9, hK9⟩ := hL.addH hI eb q1 q2 q3
        refine g_pop (q := 89) C dX4_herb_88 rfl rfl ?_
        refine g_iload_n (q := 90) C dX4_herb_89 rfl rfl ?_
        exact g_x (g_iret C dX4_herb_90 (by have e_ : sHerb S e lm = (0, nI (sN S), (sN S + 1, fUp (sE S) (sN S) e, fUp (sL S) (sN S) lm), S.2) := (by simp [sHerb, f_7, f_28, f_50]); rw [e_]; exact ⟨rfl, rfl, hP9, hK9⟩) (by decide) (by decide))
      · skip
        have f_50 : ¬ sN S < 6 := fun q => c_50 (nI_lt q (by decide))
        exact g_throwS C hl hno hThr_ISE hs_55 ⟨1, by simp [sHerb, f_7, f_28, f_50], rfl⟩ rfl dX4_herb_53 dX4_herb_56 dX4_herb_57 dX4_herb_59 dX4_herb_62 (by decide) (by decide) (by decide) (by decide) (by decide) (by decide)
    · skip
      have f_28 : inR 20 90 lm = false := c_28
      exact g_throwS C hl hno hThr_IAE hs_47 ⟨0, by simp [sHerb, f_7, f_28], rfl⟩ rfl dX4_herb_31 dX4_herb_34 dX4_herb_35 dX4_herb_37 dX4_herb_40 (by decide) (by decide) (by decide) (by decide) (by decide) (by decide)
  · skip
    have f_7 : inR 1 9 e = false := c_7
    exact g_throwS C hl hno hThr_IAE hs_42 ⟨0, by simp [sHerb, f_7], rfl⟩ rfl dX4_herb_10 dX4_herb_13 dX4_herb_14 dX4_herb_16 dX4_herb_19 (by decide) (by decide) (by decide) (by decide) (by decide) (by decide)
set_option maxRecDepth 100000 in
set_option maxHeartbeats 4000000 in
theorem c_X4_order (Γ : hGam) (l : Launch) {M : hM} {x : Nat} {S : hS} (h m w : Int32) (hl : l.stackTraces = false) (hL0 : ltP Γ M x S) (hI : sInv S) : hMetX Γ l yX4_order cX4_order 6 (some .int) rm_X4_order [.ref x, .int h, .int m, .int w] M (hpI (fun a M1 => (sOrd S h m w).1 = 0 ∧ a = (sOrd S h m w).2.1 ∧ ltP Γ M1 x (sOrd S h m w).2.2 ∧ hKp noCls M M1)) (thrN [eIOB, eIAE, eISE] (sOrd S h m w).1) := by
  obtain ⟨hl9, ol, rk, tr, edh, edo, hb, ob, hk, hk2, V, V2, g0, hL⟩ := hL0
  have hLc := hL
  obtain ⟨pL, pT, pH, pO, nHO, nED, pR, pR2, nHK, hRV⟩ := hLc
  obtain ⟨pRs, FS, pF⟩ := pR
  obtain ⟨pRs2, FS2, pF2⟩ := pR2
  refine hMetX_of (by decide +kernel) (Nat.le_of_ble_eq_true rfl) (hCat_cons rfl (hCat_cons rfl (hCat_cons rfl (hCat_cons rfl hCat_nil)))) (fun k C hno => ?_)
  show hG _ _ _ _ _ _ _ _ [some (.ref x), some (.int h), some (.int m), some (.int w), none, none] _
  refine g_aload_n (q := 1) C dX4_order_0 rfl (by first | exact hRef_r _ | exact hRef_o _ | exact hRef_n) rfl ?_
  refine g_iload_n (q := 2) C dX4_order_1 rfl rfl ?_
  refine g_callV1O (q := 5) C hy_X4_herbNumbered (c_X4_herbNumbered Γ l h pL pH hI.1) qw_385 (by exact pL) rfl ⟨Nat.le_of_ble_eq_true rfl, Nat.le_of_ble_eq_true rfl⟩ (Nat.le_of_ble_eq_true rfl) rfl dX4_order_2 ⟨rfl, rfl⟩ ⟨(by decide), (by decide)⟩ rfl ?_
  refine g_astore4 (q := 7) C dX4_order_5 (by first | exact hRef_r _ | exact hRef_o _ | exact hRef_n) (by first | rfl | exact hNw_rf _) rfl ?_
  refine g_aload (q := 9) C dX4_order_7 rfl (by first | exact hRef_r _ | exact hRef_o _ | exact hRef_n) rfl ?_
  refine g_ifnonnull (t := 22) (q := 12) C dX4_order_9 (by decide) rfl (fun y_9 e_9 => ?_) (fun e_9 => ?_)
  · skip
    obtain ⟨f_9, q_9⟩ := hbO_s e_9
    subst q_9
    rw [e_9]
    refine g_iload_n (q := 23) C dX4_order_22 rfl rfl ?_
    refine g_iconst (q := 24) (1) C dX4_order_23 (by decide) rfl ?_
    refine g_bipush (q := 26) (9) C dX4_order_24 (by decide) rfl ?_
    refine g_callS3P (q := 29) C hy_X4_isWithin (c_X4_isWithin Γ l m 1 9) qw_256 ⟨Nat.le_of_ble_eq_true rfl, Nat.le_of_ble_eq_true rfl⟩ (Nat.le_of_ble_eq_true rfl) rfl dX4_order_26 ⟨rfl, rfl⟩ ⟨(by decide), (by decide)⟩ rfl ?_
    refine g_ifB_ne (t := 42) (q := 32) C dX4_order_29 (by decide) rfl (fun c_29 => ?_) (fun c_29 => ?_)
    · skip
      have f_29 : inR 1 9 m = true := c_29
      refine g_iload_n (q := 43) C dX4_order_42 rfl rfl ?_
      refine g_iconst (q := 44) (0) C dX4_order_43 (by decide) rfl ?_
      refine g_bipush (q := 46) (60) C dX4_order_44 (by decide) rfl ?_
      refine g_callS3P (q := 49) C hy_X4_isWithin (c_X4_isWithin Γ l w 0 60) qw_256 ⟨Nat.le_of_ble_eq_true rfl, Nat.le_of_ble_eq_true rfl⟩ (Nat.le_of_ble_eq_true rfl) rfl dX4_order_46 ⟨rfl, rfl⟩ ⟨(by decide), (by decide)⟩ rfl ?_
      refine g_ifB_ne (t := 62) (q := 52) C dX4_order_49 (by decide) rfl (fun c_49 => ?_) (fun c_49 => ?_)
      · skip
        have f_49 : inR 0 60 w = true := c_49
        refine g_aload_n (q := 63) C dX4_order_62 rfl (by first | exact hRef_r _ | exact hRef_o _ | exact hRef_n) rfl ?_
        refine g_get (q := 66) C hcl_X4 1 (by decide) qw_117 rfl dX4_order_63 (by exact pL) rfl rfl ?_
        refine g_callV0P (q := 69) C hy_Jx4a65c_size_8abf5 (c_Jx4a65c_size_8abf5 Γ l pO.1) qw_271 (by exact pO.1.choose_spec.choose_spec.choose_spec.choose_spec.1) rfl ⟨Nat.le_of_ble_eq_true rfl, Nat.le_of_ble_eq_true rfl⟩ (Nat.le_of_ble_eq_true rfl) rfl dX4_order_66 ⟨rfl, rfl⟩ ⟨(by decide), (by decide)⟩ rfl ?_
        refine g_bipush (q := 71) (6) C dX4_order_69 (by decide) rfl ?_
        refine g_icmp_lt (t := 84) (q := 74) C dX4_order_71 (by decide) rfl (fun c_71 => ?_) (fun c_71 => ?_)
        · skip
          have hn6 := hI.2.1
          have f_71 : sO S < 6 := (nI_ltI (a := sO S) (b := 6) (by omega) (by decide)).mp c_71
          refine g_aload_n (q := 85) C dX4_order_84 rfl (by first | exact hRef_r _ | exact hRef_o _ | exact hRef_n) rfl ?_
          refine g_get (q := 88) C hcl_X4 1 (by decide) qw_117 rfl dX4_order_85 (by exact pL) rfl rfl ?_
          refine g_callV0P (q := 91) C hy_Jx4a65c_size_8abf5 (c_Jx4a65c_size_8abf5 Γ l pO.1) qw_271 (by exact pO.1.choose_spec.choose_spec.choose_spec.choose_spec.1) rfl ⟨Nat.le_of_ble_eq_true rfl, Nat.le_of_ble_eq_true rfl⟩ (Nat.le_of_ble_eq_true rfl) rfl dX4_order_88 ⟨rfl, rfl⟩ ⟨(by decide), (by decide)⟩ rfl ?_
          refine g_istore5 (q := 93) C dX4_order_91 (by first | rfl | exact hNw_rf _) rfl ?_
          refine g_aload_n (q := 94) C dX4_order_93 rfl (by first | exact hRef_r _ | exact hRef_o _ | exact hRef_n) rfl ?_
          refine g_get (q := 97) C hcl_X4 1 (by decide) qw_117 rfl dX4_order_94 (by exact pL) rfl rfl ?_
          refine g_new (q := 100) C hcl_X2 qw_289 qw_547 qw_30 hfs_X2 (by decide) (by decide) dX4_order_97 rfl (fun b eb => ?_)
          refine g_dup (q := 101) C dX4_order_100 rfl rfl ?_
          refine g_aload (q := 103) C dX4_order_101 rfl (by first | exact hRef_r _ | exact hRef_o _ | exact hRef_n) rfl ?_
          refine g_iload_n (q := 104) C dX4_order_103 rfl rfl ?_
          refine g_iload_n (q := 105) C dX4_order_104 rfl rfl ?_
          refine g_callI3V (q := 108) C hy_X2_init (c_X2_init Γ l (some (hb (hNo h))) m w (hU_s _ _ _)) qw_548 ⟨Nat.le_of_ble_eq_true rfl, Nat.le_of_ble_eq_true rfl⟩ (Nat.le_of_ble_eq_true rfl) rfl dX4_order_105 ⟨rfl, rfl⟩ ⟨(by decide), (by decide)⟩ rfl (fun M_105 p_105 => ?_)
          rw [hU_2] at p_105
          subst p_105
          have hls : lsP Γ (hU M b (oOrder (some (hb (hNo h))) m w 0)) ol edo (sO S) ob := pO.1.kp (hKp.rf.new eb : hKp (fun _ => true) M _) rfl ⟨rfl, rfl⟩
          have hvna : b ≠ ol := fun q => by obtain ⟨_, _, _, _, z1, _⟩ := pO.1.d; rw [← q, eb] at z1; cases z1
          have hro : edo = Γ.2.2.1 → ∀ x, hU M b (oOrder (some (hb (hNo h))) m w 0) edo ≠ some (true, x) := fun q x z => by rw [q, hU_n (fun q2 => by rw [q2, eb] at pT; cases pT), pT] at z; cases z
          refine g_callV1Im (q := 111) C hy_Jx4a65c_add_9ea2d (c_Jx4a65c_add_9ea2d Γ l hls f_71 (hU_s _ _ _) (r := (RX2, TX2, 4)) rfl qw_698 hvna hro) qw_572 (by exact hls.choose_spec.choose_spec.choose_spec.choose_spec.1) rfl ⟨Nat.le_of_ble_eq_true rfl, Nat.le_of_ble_eq_true rfl⟩ (Nat.le_of_ble_eq_true rfl) rfl dX4_order_108 ⟨(by decide), (by decide)⟩ rfl (fun x_108 M_108 p_108 => ?_)
          obtain ⟨-, ed2, q1, q2, q3⟩ := p_108
          obtain ⟨hP9, hK9⟩ := hL.addO eb q1 q2 q3
          refine g_pop (q := 112) C dX4_order_111 rfl rfl ?_
          refine g_iload (q := 114) C dX4_order_112 rfl rfl ?_
          exact g_x (g_iret C dX4_order_114 (by have e_ : sOrd S h m w = (0, nI (sO S), (S.1, (sO S + 1, fUp (sW S) (sO S) (hNo h), fUp (sM S) (sO S) m, fUp (sD S) (sO S) w, fUp (sG S) (sO S) 0), S.2.2)) := (by simp [sOrd, f_9, f_29, f_49, f_71]); rw [e_]; exact ⟨rfl, rfl, hP9, hK9⟩) (by decide) (by decide))
        · skip
          have f_71 : ¬ sO S < 6 := fun q => c_71 (nI_lt q (by decide))
          exact g_throwS C hl hno hThr_ISE hs_130 ⟨2, by simp [sOrd, f_9, f_29, f_49, f_71], rfl⟩ rfl dX4_order_74 dX4_order_77 dX4_order_78 dX4_order_80 dX4_order_83 (by decide) (by decide) (by decide) (by decide) (by decide) (by decide)
      · skip
        have f_49 : inR 0 60 w = false := c_49
        exact g_throwS C hl hno hThr_IAE hs_128 ⟨1, by simp [sOrd, f_9, f_29, f_49], rfl⟩ rfl dX4_order_52 dX4_order_55 dX4_order_56 dX4_order_58 dX4_order_61 (by decide) (by decide) (by decide) (by decide) (by decide) (by decide)
    · skip
      have f_29 : inR 1 9 m = false := c_29
      exact g_throwS C hl hno hThr_IAE hs_126 ⟨1, by simp [sOrd, f_9, f_29], rfl⟩ rfl dX4_order_32 dX4_order_35 dX4_order_36 dX4_order_38 dX4_order_41 (by decide) (by decide) (by decide) (by decide) (by decide) (by decide)
  · skip
    have f_9 := hbO_n e_9
    exact g_throwS C hl hno hThr_IOB hs_80 ⟨0, by simp [sOrd, f_9], rfl⟩ rfl dX4_order_12 dX4_order_15 dX4_order_16 dX4_order_18 dX4_order_21 (by decide) (by decide) (by decide) (by decide) (by decide) (by decide)
