set_option maxRecDepth 100000 in
set_option maxHeartbeats 4000000 in
theorem c_X6_isHook (Γ : hGam) (l : Launch) {M : hM} (p q : Int32)   : hMet Γ l yX6_isHook cX6_isHook 2 (some .boolean) rm_X6_isHook [.int p, .int q] M (hpP M (bI (isHk p q))) := by
  refine hMet_of (by decide +kernel) (Nat.le_of_ble_eq_true rfl) (hCat_cons rfl (hCat_cons rfl hCat_nil)) (fun k9 C => ?_)
  show hG _ _ _ _ _ _ _ _ [some (.int p), some (.int q)] _
  refine g_iload_n (q := 1) C dX6_isHook_0 rfl rfl ?_
  refine g_iconst (q := 2) (0) C dX6_isHook_1 (by decide) rfl ?_
  refine g_iconst (q := 3) (4) C dX6_isHook_2 (by decide) rfl ?_
  refine g_callS3P (q := 6) C hy_X6_isIn (c_X6_isIn Γ l p 0 4) qw_760 ⟨Nat.le_of_ble_eq_true rfl, Nat.le_of_ble_eq_true rfl⟩ (Nat.le_of_ble_eq_true rfl) rfl dX6_isHook_3 ⟨rfl, rfl⟩ ⟨Nat.zero_le _, Nat.zero_le _⟩ rfl ?_
  refine g_ifB_eq (t := 23) (q := 9) C dX6_isHook_6 (by decide) rfl (fun c_6 => ?_) (fun c_6 => ?_)
  · skip
    refine g_iconst (q := 24) (0) C dX6_isHook_23 (by decide) rfl ?_
    exact g_zret C dX6_isHook_24 (by first | rfl | exact hNarB _) (⟨by unfold isHk; rw [show inStr p = false from c_6]; rfl, rfl⟩) (Nat.zero_le _) (Nat.zero_le _)
  · skip
    refine g_iload_n (q := 10) C dX6_isHook_9 rfl rfl ?_
    refine g_iconst (q := 11) (0) C dX6_isHook_10 (by decide) rfl ?_
    refine g_bipush (q := 13) (7) C dX6_isHook_11 (by decide) rfl ?_
    refine g_callS3P (q := 16) C hy_X6_isIn (c_X6_isIn Γ l q 0 7) qw_760 ⟨Nat.le_of_ble_eq_true rfl, Nat.le_of_ble_eq_true rfl⟩ (Nat.le_of_ble_eq_true rfl) rfl dX6_isHook_13 ⟨rfl, rfl⟩ ⟨Nat.zero_le _, Nat.zero_le _⟩ rfl ?_
    refine g_ifB_eq (t := 23) (q := 19) C dX6_isHook_16 (by decide) rfl (fun c_16 => ?_) (fun c_16 => ?_)
    · skip
      refine g_iconst (q := 24) (0) C dX6_isHook_23 (by decide) rfl ?_
      exact g_zret C dX6_isHook_24 (by first | rfl | exact hNarB _) (⟨by unfold isHk; rw [show inHok q = false from c_16, Bool.and_false]; rfl, rfl⟩) (Nat.zero_le _) (Nat.zero_le _)
    · skip
      refine g_iconst (q := 20) (1) C dX6_isHook_19 (by decide) rfl ?_
      refine g_goto (t := 24) C dX6_isHook_20 (by decide) ?_
      exact g_zret C dX6_isHook_24 (by first | rfl | exact hNarB _) (⟨by unfold isHk; rw [show inStr p = true from c_6, show inHok q = true from c_16]; rfl, rfl⟩) (Nat.zero_le _) (Nat.zero_le _)
set_option maxRecDepth 100000 in
set_option maxHeartbeats 4000000 in
theorem c_X6_isHerb (Γ : hGam) (l : Launch) {M : hM} {m : Nat} {th : Int32} {S : hS} {s ah od : Nat} {ad : Nat → Nat} {G : Nat → Nat → Int32} {d1 d2 : Int32} (h : Int32) (hQ : mdQ Γ M m th S s ah od ad G d1 d2) (hI : sInv S)  : hMet Γ l yX6_isHerb cX6_isHerb 2 (some .boolean) rm_X6_isHerb [.ref m, .int h] M (hpP M (bI (isH S h))) := by
  have hQc := hQ
  obtain ⟨mM, mA, mS, mAh, mOd, mNe, mH, ⟨mO, mO0⟩, mV⟩ := hQc
  have hn6 := hI.1
  have ho6 := hI.2.1
  have R := mV.rel hI.lt hI.1
  refine hMet_of (by decide +kernel) (Nat.le_of_ble_eq_true rfl) (hCat_cons rfl (hCat_cons rfl hCat_nil)) (fun k9 C => ?_)
  show hG _ _ _ _ _ _ _ _ [some (.ref m), some (.int h)] _
  refine g_iload_n (q := 1) C dX6_isHerb_0 rfl rfl ?_
  refine g_iconst (q := 2) (0) C dX6_isHerb_1 (by decide) rfl ?_
  refine g_aload_n (q := 3) C dX6_isHerb_2 rfl (by first | exact hRef_r _ | exact hRef_o _ | exact hRef_n) rfl ?_
  refine g_get (q := 6) C hcl_X6 2 (by decide) qw_711 rfl dX6_isHerb_3 (by first | exact mM | exact mS) rfl rfl ?_
  refine g_iconst (q := 7) (1) C dX6_isHerb_6 (by decide) rfl ?_
  refine g_isub (q := 8) C dX6_isHerb_7 rfl ?_
  refine g_callS3P (q := 11) C hy_X6_isIn (c_X6_isIn Γ l h 0 (nI (sN S) - 1)) qw_760 ⟨Nat.le_of_ble_eq_true rfl, Nat.le_of_ble_eq_true rfl⟩ (Nat.le_of_ble_eq_true rfl) rfl dX6_isHerb_8 ⟨rfl, rfl⟩ ⟨Nat.zero_le _, Nat.zero_le _⟩ rfl ?_
  exact g_zret C dX6_isHerb_11 (by first | rfl | exact hNarB _) (⟨by rw [isH_md hn6 h], rfl⟩) (Nat.zero_le _) (Nat.zero_le _)
set_option maxRecDepth 100000 in
set_option maxHeartbeats 4000000 in
theorem c_X6_fits (Γ : hGam) (l : Launch) {M : hM} {m : Nat} {th : Int32} {S : hS} {s ah od : Nat} {ad : Nat → Nat} {G : Nat → Nat → Int32} {d1 d2 : Int32} {k o : Nat} (hQ : mdQ Γ M m th S s ah od ad G d1 d2) (hI : sInv S) (hk : k < 40) (ho : o < sO S) : hMet Γ l yX6_fits cX6_fits 3 (some .boolean) rm_X6_fits [.ref m, .int (nI k), .int (nI o)] M (hpP M (bI (bFit (sB S k) (some (sW S o)) (sD S o)))) := by
  have hQc := hQ
  obtain ⟨mM, mA, mS, mAh, mOd, mNe, mH, ⟨mO, mO0⟩, mV⟩ := hQc
  have hn6 := hI.1
  have ho6 := hI.2.1
  have R := mV.rel hI.lt hI.1
  refine hMet_of (by decide +kernel) (Nat.le_of_ble_eq_true rfl) (hCat_cons rfl (hCat_cons rfl (hCat_cons rfl hCat_nil))) (fun k9 C => ?_)
  show hG _ _ _ _ _ _ _ _ [some (.ref m), some (.int (nI k)), some (.int (nI o))] _
  refine g_aload_n (q := 1) C dX6_fits_0 rfl (by first | exact hRef_r _ | exact hRef_o _ | exact hRef_n) rfl ?_
  refine g_get (q := 4) C hcl_X6 11 (by decide) qw_720 rfl dX6_fits_1 (by first | exact mM | exact mS) rfl rfl ?_
  refine g_getN (q := 7) C hcl_X5 1 (by decide) qw_686 rfl dX6_fits_4 (by first | exact mM | exact mS) rfl rfl ?_
  refine g_iload_n (q := 8) C dX6_fits_7 rfl rfl ?_
  refine g_iald (q := 9) C k rfl (hk) (by decide) dX6_fits_8 (mA.at0 (c := 0) (by decide)) rfl ?_
  refine g_aload_n (q := 10) C dX6_fits_9 rfl (by first | exact hRef_r _ | exact hRef_o _ | exact hRef_n) rfl ?_
  refine g_get (q := 13) C hcl_X6 6 (by decide) qw_715 rfl dX6_fits_10 (by first | exact mM | exact mS) rfl rfl ?_
  refine g_iload_n (q := 14) C dX6_fits_13 rfl rfl ?_
  refine g_iald (q := 15) C o rfl (by omega) (by decide) dX6_fits_14 (mA.at6 (c := 17) (by decide) (by decide)) rfl ?_
  refine g_icmp_ne (t := 51) (q := 18) C dX6_fits_15 (by decide) rfl (fun c_15 => ?_) (fun c_15 => ?_)
  · skip
    refine g_iconst (q := 52) (0) C dX6_fits_51 (by decide) rfl ?_
    exact g_zret C dX6_fits_52 (by first | rfl | exact hNarB _) (⟨by rw [fits_md mV hI.lt hn6 hk (hI.2.2.2.1 o ho), ← (mO o ho).1, ← (mO o ho).2.2.1]; simp [c_15, bI], rfl⟩) (Nat.zero_le _) (Nat.zero_le _)
  · skip
    refine g_aload_n (q := 19) C dX6_fits_18 rfl (by first | exact hRef_r _ | exact hRef_o _ | exact hRef_n) rfl ?_
    refine g_get (q := 22) C hcl_X6 11 (by decide) qw_720 rfl dX6_fits_19 (by first | exact mM | exact mS) rfl rfl ?_
    refine g_iload_n (q := 23) C dX6_fits_22 rfl rfl ?_
    refine g_callV1P (q := 26) C hy_X5_wetness (c_X5_wetness Γ l k mA mS (by decide) hk) qw_795 (by exact mS) rfl ⟨Nat.le_of_ble_eq_true rfl, Nat.le_of_ble_eq_true rfl⟩ (Nat.le_of_ble_eq_true rfl) rfl dX6_fits_23 ⟨rfl, rfl⟩ ⟨Nat.zero_le _, Nat.zero_le _⟩ rfl ?_
    refine g_aload_n (q := 27) C dX6_fits_26 rfl (by first | exact hRef_r _ | exact hRef_o _ | exact hRef_n) rfl ?_
    refine g_get (q := 30) C hcl_X6 8 (by decide) qw_717 rfl dX6_fits_27 (by first | exact mM | exact mS) rfl rfl ?_
    refine g_iload_n (q := 31) C dX6_fits_30 rfl rfl ?_
    refine g_iald (q := 32) C o rfl (by omega) (by decide) dX6_fits_31 (mA.at6 (c := 19) (by decide) (by decide)) rfl ?_
    refine g_icmp_gt (t := 51) (q := 35) C dX6_fits_32 (by decide) rfl (fun c_32 => ?_) (fun c_32 => ?_)
    · skip
      refine g_iconst (q := 52) (0) C dX6_fits_51 (by decide) rfl ?_
      exact g_zret C dX6_fits_52 (by first | rfl | exact hNarB _) (⟨by rw [fits_md mV hI.lt hn6 hk (hI.2.2.2.1 o ho), ← (mO o ho).1, ← (mO o ho).2.2.1]; simp [c_15, Int32.not_le.mpr c_32, bI], rfl⟩) (Nat.zero_le _) (Nat.zero_le _)
    · skip
      refine g_aload_n (q := 36) C dX6_fits_35 rfl (by first | exact hRef_r _ | exact hRef_o _ | exact hRef_n) rfl ?_
      refine g_get (q := 39) C hcl_X6 11 (by decide) qw_720 rfl dX6_fits_36 (by first | exact mM | exact mS) rfl rfl ?_
      refine g_getN (q := 42) C hcl_X5 5 (by decide) qw_694 rfl dX6_fits_39 (by first | exact mM | exact mS) rfl rfl ?_
      refine g_iload_n (q := 43) C dX6_fits_42 rfl rfl ?_
      refine g_iald (q := 44) C k rfl (hk) (by decide) dX6_fits_43 (mA.at0 (c := 4) (by decide)) rfl ?_
      refine g_if_ne (t := 51) (q := 47) C dX6_fits_44 (by decide) rfl (fun c_44 => ?_) (fun c_44 => ?_)
      · skip
        refine g_iconst (q := 52) (0) C dX6_fits_51 (by decide) rfl ?_
        exact g_zret C dX6_fits_52 (by first | rfl | exact hNarB _) (⟨by rw [fits_md mV hI.lt hn6 hk (hI.2.2.2.1 o ho), ← (mO o ho).1, ← (mO o ho).2.2.1]; simp [c_15, Int32.not_lt.mp c_32, c_44, bI], rfl⟩) (Nat.zero_le _) (Nat.zero_le _)
      · skip
        refine g_iconst (q := 48) (1) C dX6_fits_47 (by decide) rfl ?_
        refine g_goto (t := 52) C dX6_fits_48 (by decide) ?_
        exact g_zret C dX6_fits_52 (by first | rfl | exact hNarB _) (⟨by rw [fits_md mV hI.lt hn6 hk (hI.2.2.2.1 o ho), ← (mO o ho).1, ← (mO o ho).2.2.1]; simp [c_15, Int32.not_lt.mp c_32, c_44, bI], rfl⟩) (Nat.zero_le _) (Nat.zero_le _)
set_option maxRecDepth 100000 in
set_option maxHeartbeats 4000000 in
theorem c_X6_bundleTold (Γ : hGam) (l : Launch) {M : hM} {m : Nat} {th : Int32} {S : hS} {s ah od : Nat} {ad : Nat → Nat} {G : Nat → Nat → Int32} {d1 d2 : Int32} {k : Nat} (w : Int32) (hQ : mdQ Γ M m th S s ah od ad G d1 d2) (hI : sInv S) (hk : k < 40) : hMet Γ l yX6_bundleTold cX6_bundleTold 3 (some .int) rm_X6_bundleTold [.ref m, .int (nI k), .int w] M (hpP M (tellI (sB S) k w)) := by
  have hQc := hQ
  obtain ⟨mM, mA, mS, mAh, mOd, mNe, mH, ⟨mO, mO0⟩, mV⟩ := hQc
  have hn6 := hI.1
  have ho6 := hI.2.1
  have R := mV.rel hI.lt hI.1
  refine hMet_of (by decide +kernel) (Nat.le_of_ble_eq_true rfl) (hCat_cons rfl (hCat_cons rfl (hCat_cons rfl hCat_nil))) (fun k9 C => ?_)
  show hG _ _ _ _ _ _ _ _ [some (.ref m), some (.int (nI k)), some (.int w)] _
  refine g_aload_n (q := 1) C dX6_bundleTold_0 rfl (by first | exact hRef_r _ | exact hRef_o _ | exact hRef_n) rfl ?_
  refine g_get (q := 4) C hcl_X6 11 (by decide) qw_720 rfl dX6_bundleTold_1 (by first | exact mM | exact mS) rfl rfl ?_
  refine g_iload_n (q := 5) C dX6_bundleTold_4 rfl rfl ?_
  refine g_callV1P (q := 8) C hy_X5_hangs (c_X5_hangs Γ l k mA mS (by decide) hk) qw_778 (by exact mS) rfl ⟨Nat.le_of_ble_eq_true rfl, Nat.le_of_ble_eq_true rfl⟩ (Nat.le_of_ble_eq_true rfl) rfl dX6_bundleTold_5 ⟨rfl, rfl⟩ ⟨Nat.zero_le _, Nat.zero_le _⟩ rfl ?_
  refine g_ifB_ne (t := 13) (q := 11) C dX6_bundleTold_8 (by decide) rfl (fun c_8 => ?_) (fun c_8 => ?_)
  · skip
    have ht : (sB S k).1.isSome = true := (R.tk hk).symm.trans c_8
    have e2 := (mV k hk).2 (fun q => by rw [q] at ht; cases ht)
    refine g_iload_n (q := 14) C dX6_bundleTold_13 rfl rfl ?_
    by_cases s_0 : w = 0
    · skip
      refine g_tswI (t := 56) 0 C dX6_bundleTold_14 (by rw [s_0]; rfl) (by decide) (by decide) rfl (by decide) ?_
      refine g_aload_n (q := 57) C dX6_bundleTold_56 rfl (by first | exact hRef_r _ | exact hRef_o _ | exact hRef_n) rfl ?_
      refine g_get (q := 60) C hcl_X6 11 (by decide) qw_720 rfl dX6_bundleTold_57 (by first | exact mM | exact mS) rfl rfl ?_
      refine g_getN (q := 63) C hcl_X5 1 (by decide) qw_686 rfl dX6_bundleTold_60 (by first | exact mM | exact mS) rfl rfl ?_
      refine g_iload_n (q := 64) C dX6_bundleTold_63 rfl rfl ?_
      refine g_iald (q := 65) C k rfl (hk) (by decide) dX6_bundleTold_64 (mA.at0 (c := 0) (by decide)) rfl ?_
      exact g_iret C dX6_bundleTold_65 (⟨by rw [show tellI (sB S) k w = hnO (sB S k).1 from (by unfold tellI bTel; rw [if_pos ht, s_0]; simp)]; exact (by show G 0 k = _; rw [(mV k hk).1]; exact enc_hn ht), rfl⟩) (Nat.zero_le _) (Nat.zero_le _)
    by_cases s_1 : w = 1
    · skip
      refine g_tswI (t := 66) 1 C dX6_bundleTold_14 (by rw [s_1]; rfl) (by decide) (by decide) rfl (by decide) ?_
      refine g_aload_n (q := 67) C dX6_bundleTold_66 rfl (by first | exact hRef_r _ | exact hRef_o _ | exact hRef_n) rfl ?_
      refine g_get (q := 70) C hcl_X6 11 (by decide) qw_720 rfl dX6_bundleTold_67 (by first | exact mM | exact mS) rfl rfl ?_
      refine g_getN (q := 73) C hcl_X5 2 (by decide) qw_688 rfl dX6_bundleTold_70 (by first | exact mM | exact mS) rfl rfl ?_
      refine g_iload_n (q := 74) C dX6_bundleTold_73 rfl rfl ?_
      refine g_iald (q := 75) C k rfl (hk) (by decide) dX6_bundleTold_74 (mA.at0 (c := 1) (by decide)) rfl ?_
      exact g_iret C dX6_bundleTold_75 (⟨by rw [show tellI (sB S) k w = (sB S k).2.1 from (by unfold tellI bTel; rw [if_pos ht, s_1]; simp)]; exact (congrArg (fun z => z.1) e2), rfl⟩) (Nat.zero_le _) (Nat.zero_le _)
    by_cases s_2 : w = 2
    · skip
      refine g_tswI (t := 76) 2 C dX6_bundleTold_14 (by rw [s_2]; rfl) (by decide) (by decide) rfl (by decide) ?_
      refine g_aload_n (q := 77) C dX6_bundleTold_76 rfl (by first | exact hRef_r _ | exact hRef_o _ | exact hRef_n) rfl ?_
      refine g_get (q := 80) C hcl_X6 11 (by decide) qw_720 rfl dX6_bundleTold_77 (by first | exact mM | exact mS) rfl rfl ?_
      refine g_getN (q := 83) C hcl_X5 3 (by decide) qw_690 rfl dX6_bundleTold_80 (by first | exact mM | exact mS) rfl rfl ?_
      refine g_iload_n (q := 84) C dX6_bundleTold_83 rfl rfl ?_
      refine g_iald (q := 85) C k rfl (hk) (by decide) dX6_bundleTold_84 (mA.at0 (c := 2) (by decide)) rfl ?_
      exact g_iret C dX6_bundleTold_85 (⟨by rw [show tellI (sB S) k w = (sB S k).2.2.1 from (by unfold tellI bTel; rw [if_pos ht, s_2]; simp)]; exact (congrArg (fun z => z.2.1) e2), rfl⟩) (Nat.zero_le _) (Nat.zero_le _)
    by_cases s_3 : w = 3
    · skip
      refine g_tswI (t := 86) 3 C dX6_bundleTold_14 (by rw [s_3]; rfl) (by decide) (by decide) rfl (by decide) ?_
      refine g_aload_n (q := 87) C dX6_bundleTold_86 rfl (by first | exact hRef_r _ | exact hRef_o _ | exact hRef_n) rfl ?_
      refine g_get (q := 90) C hcl_X6 11 (by decide) qw_720 rfl dX6_bundleTold_87 (by first | exact mM | exact mS) rfl rfl ?_
      refine g_iload_n (q := 91) C dX6_bundleTold_90 rfl rfl ?_
      refine g_callV1P (q := 94) C hy_X5_wetness (c_X5_wetness Γ l k mA mS (by decide) hk) qw_795 (by exact mS) rfl ⟨Nat.le_of_ble_eq_true rfl, Nat.le_of_ble_eq_true rfl⟩ (Nat.le_of_ble_eq_true rfl) rfl dX6_bundleTold_91 ⟨rfl, rfl⟩ ⟨Nat.zero_le _, Nat.zero_le _⟩ rfl ?_
      exact g_iret C dX6_bundleTold_94 (⟨by rw [show tellI (sB S) k w = bWet (sB S k) from (by unfold tellI bTel; rw [if_pos ht, s_3]; simp)]; exact (R.wt hk ht), rfl⟩) (Nat.zero_le _) (Nat.zero_le _)
    by_cases s_4 : w = 4
    · skip
      refine g_tswI (t := 95) 4 C dX6_bundleTold_14 (by rw [s_4]; rfl) (by decide) (by decide) rfl (by decide) ?_
      refine g_aload_n (q := 96) C dX6_bundleTold_95 rfl (by first | exact hRef_r _ | exact hRef_o _ | exact hRef_n) rfl ?_
      refine g_get (q := 99) C hcl_X6 11 (by decide) qw_720 rfl dX6_bundleTold_96 (by first | exact mM | exact mS) rfl rfl ?_
      refine g_getN (q := 102) C hcl_X5 4 (by decide) qw_692 rfl dX6_bundleTold_99 (by first | exact mM | exact mS) rfl rfl ?_
      refine g_iload_n (q := 103) C dX6_bundleTold_102 rfl rfl ?_
      refine g_iald (q := 104) C k rfl (hk) (by decide) dX6_bundleTold_103 (mA.at0 (c := 3) (by decide)) rfl ?_
      exact g_iret C dX6_bundleTold_104 (⟨by rw [show tellI (sB S) k w = (sB S k).2.2.2.1 from (by unfold tellI bTel; rw [if_pos ht, s_4]; simp)]; exact (congrArg (fun z => z.2.2.1) e2), rfl⟩) (Nat.zero_le _) (Nat.zero_le _)
    by_cases s_5 : w = 5
    · skip
      refine g_tswI (t := 105) 5 C dX6_bundleTold_14 (by rw [s_5]; rfl) (by decide) (by decide) rfl (by decide) ?_
      refine g_aload_n (q := 106) C dX6_bundleTold_105 rfl (by first | exact hRef_r _ | exact hRef_o _ | exact hRef_n) rfl ?_
      refine g_get (q := 109) C hcl_X6 11 (by decide) qw_720 rfl dX6_bundleTold_106 (by first | exact mM | exact mS) rfl rfl ?_
      refine g_getN (q := 112) C hcl_X5 5 (by decide) qw_694 rfl dX6_bundleTold_109 (by first | exact mM | exact mS) rfl rfl ?_
      refine g_iload_n (q := 113) C dX6_bundleTold_112 rfl rfl ?_
      refine g_iald (q := 114) C k rfl (hk) (by decide) dX6_bundleTold_113 (mA.at0 (c := 4) (by decide)) rfl ?_
      exact g_iret C dX6_bundleTold_114 (⟨by rw [show tellI (sB S) k w = (sB S k).2.2.2.2 from (by unfold tellI bTel; rw [if_pos ht, s_5]; simp)]; exact (congrArg (fun z => z.2.2.2) e2), rfl⟩) (Nat.zero_le _) (Nat.zero_le _)
    by_cases s_6 : w = 6
    · skip
      refine g_tswI (t := 115) 6 C dX6_bundleTold_14 (by rw [s_6]; rfl) (by decide) (by decide) rfl (by decide) ?_
      refine g_aload_n (q := 116) C dX6_bundleTold_115 rfl (by first | exact hRef_r _ | exact hRef_o _ | exact hRef_n) rfl ?_
      refine g_get (q := 119) C hcl_X6 11 (by decide) qw_720 rfl dX6_bundleTold_116 (by first | exact mM | exact mS) rfl rfl ?_
      refine g_iload_n (q := 120) C dX6_bundleTold_119 rfl rfl ?_
      refine g_callV1P (q := 123) C hy_X5_neighbours (c_X5_neighbours Γ l k mA mS (by decide) hk) qw_804 (by exact mS) rfl ⟨Nat.le_of_ble_eq_true rfl, Nat.le_of_ble_eq_true rfl⟩ (Nat.le_of_ble_eq_true rfl) rfl dX6_bundleTold_120 ⟨rfl, rfl⟩ ⟨Nat.zero_le _, Nat.zero_le _⟩ rfl ?_
      exact g_iret C dX6_bundleTold_123 (⟨by rw [show tellI (sB S) k w = nbrs (sB S) k from (by unfold tellI bTel; rw [if_pos ht, s_6]; simp)]; exact (R.nbre hk), rfl⟩) (Nat.zero_le _) (Nat.zero_le _)
    refine g_tswO (t := 124) C dX6_bundleTold_14 (by have n_0 := hNeI s_0 (m := 0) rfl; have n_1 := hNeI s_1 (m := 1) rfl; have n_2 := hNeI s_2 (m := 2) rfl; have n_3 := hNeI s_3 (m := 3) rfl; have n_4 := hNeI s_4 (m := 4) rfl; have n_5 := hNeI s_5 (m := 5) rfl; have n_6 := hNeI s_6 (m := 6) rfl; omega) (by decide) ?_
    refine g_aload_n (q := 125) C dX6_bundleTold_124 rfl (by first | exact hRef_r _ | exact hRef_o _ | exact hRef_n) rfl ?_
    refine g_get (q := 128) C hcl_X6 11 (by decide) qw_720 rfl dX6_bundleTold_125 (by first | exact mM | exact mS) rfl rfl ?_
    refine g_iload_n (q := 129) C dX6_bundleTold_128 rfl rfl ?_
    refine g_callV1P (q := 132) C hy_X5_wetter (c_X5_wetter Γ l k mA mS (by decide) hk) qw_861 (by exact mS) rfl ⟨Nat.le_of_ble_eq_true rfl, Nat.le_of_ble_eq_true rfl⟩ (Nat.le_of_ble_eq_true rfl) rfl dX6_bundleTold_129 ⟨rfl, rfl⟩ ⟨Nat.zero_le _, Nat.zero_le _⟩ rfl ?_
    exact g_iret C dX6_bundleTold_132 (⟨by rw [show tellI (sB S) k w = wets (sB S) k from (by unfold tellI bTel; rw [if_pos ht]; simp [s_0, s_1, s_2, s_3, s_4, s_5, s_6])]; exact R.wes hk ht, rfl⟩) (Nat.zero_le _) (Nat.zero_le _)
  · skip
    refine g_iconst (q := 12) (-1) C dX6_bundleTold_11 (by decide) rfl ?_
    exact g_iret C dX6_bundleTold_12 (⟨by unfold tellI bTel; rw [show (sB S k).1.isSome = false from (R.tk hk).symm.trans c_8]; simp, rfl⟩) (Nat.zero_le _) (Nat.zero_le _)
set_option maxRecDepth 100000 in
set_option maxHeartbeats 4000000 in
theorem c_X6_orderTold (Γ : hGam) (l : Launch) {M : hM} {m : Nat} {th : Int32} {S : hS} {s ah od : Nat} {ad : Nat → Nat} {G : Nat → Nat → Int32} {d1 d2 : Int32} {o : Nat} (w : Int32) (hQ : mdQ Γ M m th S s ah od ad G d1 d2) (hI : sInv S) (ho : o < sO S) : hMet Γ l yX6_orderTold cX6_orderTold 5 (some .int) rm_X6_orderTold [.ref m, .int (nI o), .int w] M (hpP M (asI S o w)) := by
  have hQc := hQ
  obtain ⟨mM, mA, mS, mAh, mOd, mNe, mH, ⟨mO, mO0⟩, mV⟩ := hQc
  have hn6 := hI.1
  have ho6 := hI.2.1
  have R := mV.rel hI.lt hI.1
  refine hMet_of (by decide +kernel) (Nat.le_of_ble_eq_true rfl) (hCat_cons rfl (hCat_cons rfl (hCat_cons rfl hCat_nil))) (fun k9 C => ?_)
  show hG _ _ _ _ _ _ _ _ [some (.ref m), some (.int (nI o)), some (.int w), none, none] _
  refine g_iconst (q := 1) (0) C dX6_orderTold_0 (by decide) rfl ?_
  refine g_istore3 (q := 2) C dX6_orderTold_1 (by first | rfl | exact hNw_rf _) rfl ?_
  refine g_iload_n (q := 3) C dX6_orderTold_2 rfl rfl ?_
  by_cases s_0 : w = 0
  · skip
    refine g_tswI (t := 32) 0 C dX6_orderTold_3 (by rw [s_0]; rfl) (by decide) (by decide) rfl (by decide) ?_
    refine g_aload_n (q := 33) C dX6_orderTold_32 rfl (by first | exact hRef_r _ | exact hRef_o _ | exact hRef_n) rfl ?_
    refine g_get (q := 36) C hcl_X6 6 (by decide) qw_715 rfl dX6_orderTold_33 (by first | exact mM | exact mS) rfl rfl ?_
    refine g_iload_n (q := 37) C dX6_orderTold_36 rfl rfl ?_
    refine g_iald (q := 38) C o rfl (by omega) (by decide) dX6_orderTold_37 (mA.at6 (c := 17) (by decide) (by decide)) rfl ?_
    exact g_iret C dX6_orderTold_38 (⟨by rw [s_0, asI_0]; exact (mO o ho).1, rfl⟩) (Nat.zero_le _) (Nat.zero_le _)
  by_cases s_1 : w = 1
  · skip
    refine g_tswI (t := 39) 1 C dX6_orderTold_3 (by rw [s_1]; rfl) (by decide) (by decide) rfl (by decide) ?_
    refine g_aload_n (q := 40) C dX6_orderTold_39 rfl (by first | exact hRef_r _ | exact hRef_o _ | exact hRef_n) rfl ?_
    refine g_get (q := 43) C hcl_X6 7 (by decide) qw_716 rfl dX6_orderTold_40 (by first | exact mM | exact mS) rfl rfl ?_
    refine g_iload_n (q := 44) C dX6_orderTold_43 rfl rfl ?_
    refine g_iald (q := 45) C o rfl (by omega) (by decide) dX6_orderTold_44 (mA.at6 (c := 18) (by decide) (by decide)) rfl ?_
    exact g_iret C dX6_orderTold_45 (⟨by rw [s_1, asI_1]; exact (mO o ho).2.1, rfl⟩) (Nat.zero_le _) (Nat.zero_le _)
  by_cases s_2 : w = 2
  · skip
    refine g_tswI (t := 46) 2 C dX6_orderTold_3 (by rw [s_2]; rfl) (by decide) (by decide) rfl (by decide) ?_
    refine g_aload_n (q := 47) C dX6_orderTold_46 rfl (by first | exact hRef_r _ | exact hRef_o _ | exact hRef_n) rfl ?_
    refine g_get (q := 50) C hcl_X6 8 (by decide) qw_717 rfl dX6_orderTold_47 (by first | exact mM | exact mS) rfl rfl ?_
    refine g_iload_n (q := 51) C dX6_orderTold_50 rfl rfl ?_
    refine g_iald (q := 52) C o rfl (by omega) (by decide) dX6_orderTold_51 (mA.at6 (c := 19) (by decide) (by decide)) rfl ?_
    exact g_iret C dX6_orderTold_52 (⟨by rw [s_2, asI_2]; exact (mO o ho).2.2.1, rfl⟩) (Nat.zero_le _) (Nat.zero_le _)
  by_cases s_3 : w = 3
  · skip
    refine g_tswI (t := 53) 3 C dX6_orderTold_3 (by rw [s_3]; rfl) (by decide) (by decide) rfl (by decide) ?_
    refine g_aload_n (q := 54) C dX6_orderTold_53 rfl (by first | exact hRef_r _ | exact hRef_o _ | exact hRef_n) rfl ?_
    refine g_get (q := 57) C hcl_X6 9 (by decide) qw_718 rfl dX6_orderTold_54 (by first | exact mM | exact mS) rfl rfl ?_
    refine g_iload_n (q := 58) C dX6_orderTold_57 rfl rfl ?_
    refine g_iald (q := 59) C o rfl (by omega) (by decide) dX6_orderTold_58 (mA.at6 (c := 20) (by decide) (by decide)) rfl ?_
    exact g_iret C dX6_orderTold_59 (⟨by rw [s_3, asI_3]; exact (mO o ho).2.2.2, rfl⟩) (Nat.zero_le _) (Nat.zero_le _)
  refine g_tswO (t := 60) C dX6_orderTold_3 (by have n_0 := hNeI s_0 (m := 0) rfl; have n_1 := hNeI s_1 (m := 1) rfl; have n_2 := hNeI s_2 (m := 2) rfl; have n_3 := hNeI s_3 (m := 3) rfl; omega) (by decide) ?_
  refine g_iconst (q := 61) (0) C dX6_orderTold_60 (by decide) rfl ?_
  refine g_istore4 (q := 63) C dX6_orderTold_61 (by first | rfl | exact hNw_rf _) rfl ?_
  refine h_loopU (P := fun i => ∀ acc : Int32, acc = hIt (fFit (sB S) (some (sW S o)) (sD S o)) 0 i → hG Γ k9 _ _ M 0 0 63 [some (.ref m), some (.int (nI o)), some (.int w), some (.int acc), some (.int (nI i))] []) (N := 40) (fun i hi ih => ?_) 0 (Nat.zero_le _) _ rfl
  intro acc hacc
  refine g_iload (q := 65) C dX6_orderTold_63 rfl rfl ?_
  refine g_bipush (q := 67) (40) C dX6_orderTold_65 (by decide) rfl ?_
  refine g_icmp_ge (t := 94) (q := 70) C dX6_orderTold_67 (by decide) rfl (fun c_67 => ?_) (fun c_67 => ?_)
  · skip
    have hN := nI_ge_eq hi (by decide) c_67
    subst hN
    refine g_iload_n (q := 95) C dX6_orderTold_94 rfl rfl ?_
    exact g_iret C dX6_orderTold_95 (⟨by rw [hacc]; simp [asI, s_0, s_1, s_2, s_3], rfl⟩) (Nat.zero_le _) (Nat.zero_le _)
  · skip
    have hlt := nI_nge_lt hi (by decide) c_67
    refine g_iload_n (q := 71) C dX6_orderTold_70 rfl rfl ?_
    refine g_aload_n (q := 72) C dX6_orderTold_71 rfl (by first | exact hRef_r _ | exact hRef_o _ | exact hRef_n) rfl ?_
    refine g_iload (q := 74) C dX6_orderTold_72 rfl rfl ?_
    refine g_iload_n (q := 75) C dX6_orderTold_74 rfl rfl ?_
    refine g_callV2P (q := 78) C hy_X6_fits (c_X6_fits Γ l hQ hI hlt ho) qw_837 (by exact mM) rfl ⟨Nat.le_of_ble_eq_true rfl, Nat.le_of_ble_eq_true rfl⟩ (Nat.le_of_ble_eq_true rfl) rfl dX6_orderTold_75 ⟨rfl, rfl⟩ ⟨Nat.zero_le _, Nat.zero_le _⟩ rfl ?_
    refine g_ifB_eq (t := 85) (q := 81) C dX6_orderTold_78 (by decide) rfl (fun c_78 => ?_) (fun c_78 => ?_)
    · skip
      refine g_iconst (q := 86) (0) C dX6_orderTold_85 (by decide) rfl ?_
      refine g_iadd (q := 87) C dX6_orderTold_86 rfl ?_
      refine g_istore3 (q := 88) C dX6_orderTold_87 (by first | rfl | exact hNw_rf _) rfl ?_
      refine g_iinc4 (q := 91) (1) C dX6_orderTold_88 (by decide) (by first | rfl | exact hNw_rf _) rfl ?_
      refine g_goto (t := 63) C dX6_orderTold_91 (by decide) ?_
      rw [nI_1]
      refine ih hlt _ ?_
      rw [hIt_s, ← hacc]
      unfold fFit
      simp [c_78]
    · skip
      refine g_iconst (q := 82) (1) C dX6_orderTold_81 (by decide) rfl ?_
      refine g_goto (t := 86) C dX6_orderTold_82 (by decide) ?_
      refine g_iadd (q := 87) C dX6_orderTold_86 rfl ?_
      refine g_istore3 (q := 88) C dX6_orderTold_87 (by first | rfl | exact hNw_rf _) rfl ?_
      refine g_iinc4 (q := 91) (1) C dX6_orderTold_88 (by decide) (by first | rfl | exact hNw_rf _) rfl ?_
      refine g_goto (t := 63) C dX6_orderTold_91 (by decide) ?_
      rw [nI_1]
      refine ih hlt _ ?_
      rw [hIt_s, ← hacc]
      unfold fFit
      simp [c_78]
set_option maxRecDepth 100000 in
set_option maxHeartbeats 4000000 in
theorem c_X6_counted (Γ : hGam) (l : Launch) {M : hM} {m : Nat} {th : Int32} {S : hS} {s ah od : Nat} {ad : Nat → Nat} {G : Nat → Nat → Int32} {d1 d2 : Int32} (w : Int32) (hQ : mdQ Γ M m th S s ah od ad G d1 d2) (hI : sInv S) (hv : inR 0 8 w = true) : hMet Γ l yX6_counted cX6_counted 4 (some .int) rm_X6_counted [.ref m, .int w] M (hpP M (cnI S w)) := by
  have hQc := hQ
  obtain ⟨mM, mA, mS, mAh, mOd, mNe, mH, ⟨mO, mO0⟩, mV⟩ := hQc
  have hn6 := hI.1
  have ho6 := hI.2.1
  have R := mV.rel hI.lt hI.1
  refine hMet_of (by decide +kernel) (Nat.le_of_ble_eq_true rfl) (hCat_cons rfl (hCat_cons rfl hCat_nil)) (fun k9 C => ?_)
  show hG _ _ _ _ _ _ _ _ [some (.ref m), some (.int w), none, none] _
  refine g_iconst (q := 1) (0) C dX6_counted_0 (by decide) rfl ?_
  refine g_istore2 (q := 2) C dX6_counted_1 (by first | rfl | exact hNw_rf _) rfl ?_
  refine g_iload_n (q := 3) C dX6_counted_2 rfl rfl ?_
  by_cases s_0 : w = 0
  · skip
    refine g_tswI (t := 48) 0 C dX6_counted_3 (by rw [s_0]; rfl) (by decide) (by decide) rfl (by decide) ?_
    refine g_aload_n (q := 49) C dX6_counted_48 rfl (by first | exact hRef_r _ | exact hRef_o _ | exact hRef_n) rfl ?_
    refine g_get (q := 52) C hcl_X6 11 (by decide) qw_720 rfl dX6_counted_49 (by first | exact mM | exact mS) rfl rfl ?_
    refine g_getN (q := 55) C hcl_X5 0 (by decide) qw_684 rfl dX6_counted_52 (by first | exact mM | exact mS) rfl rfl ?_
    exact g_iret C dX6_counted_55 (⟨by rw [s_0, cnI_0], rfl⟩) (Nat.zero_le _) (Nat.zero_le _)
  by_cases s_1 : w = 1
  · skip
    refine g_tswI (t := 56) 1 C dX6_counted_3 (by rw [s_1]; rfl) (by decide) (by decide) rfl (by decide) ?_
    refine g_aload_n (q := 57) C dX6_counted_56 rfl (by first | exact hRef_r _ | exact hRef_o _ | exact hRef_n) rfl ?_
    refine g_get (q := 60) C hcl_X6 2 (by decide) qw_711 rfl dX6_counted_57 (by first | exact mM | exact mS) rfl rfl ?_
    exact g_iret C dX6_counted_60 (⟨by rw [s_1, cnI_1], rfl⟩) (Nat.zero_le _) (Nat.zero_le _)
  by_cases s_2 : w = 2
  · skip
    refine g_tswI (t := 117) 2 C dX6_counted_3 (by rw [s_2]; rfl) (by decide) (by decide) rfl (by decide) ?_
    refine g_aload_n (q := 118) C dX6_counted_117 rfl (by first | exact hRef_r _ | exact hRef_o _ | exact hRef_n) rfl ?_
    refine g_get (q := 121) C hcl_X6 11 (by decide) qw_720 rfl dX6_counted_118 (by first | exact mM | exact mS) rfl rfl ?_
    refine g_iload_n (q := 122) C dX6_counted_121 rfl rfl ?_
    refine g_callV1P (q := 125) C hy_X5_sum (c_X5_sum Γ l w mA mS (by decide)) qw_782 (by exact mS) rfl ⟨Nat.le_of_ble_eq_true rfl, Nat.le_of_ble_eq_true rfl⟩ (Nat.le_of_ble_eq_true rfl) rfl dX6_counted_122 ⟨rfl, rfl⟩ ⟨Nat.zero_le _, Nat.zero_le _⟩ rfl ?_
    exact g_iret C dX6_counted_125 (⟨by rw [s_2, cnI_2, fSm_2]; exact R.cnt, rfl⟩) (Nat.zero_le _) (Nat.zero_le _)
  by_cases s_3 : w = 3
  · skip
    refine g_tswI (t := 117) 3 C dX6_counted_3 (by rw [s_3]; rfl) (by decide) (by decide) rfl (by decide) ?_
    refine g_aload_n (q := 118) C dX6_counted_117 rfl (by first | exact hRef_r _ | exact hRef_o _ | exact hRef_n) rfl ?_
    refine g_get (q := 121) C hcl_X6 11 (by decide) qw_720 rfl dX6_counted_118 (by first | exact mM | exact mS) rfl rfl ?_
    refine g_iload_n (q := 122) C dX6_counted_121 rfl rfl ?_
    refine g_callV1P (q := 125) C hy_X5_sum (c_X5_sum Γ l w mA mS (by decide)) qw_782 (by exact mS) rfl ⟨Nat.le_of_ble_eq_true rfl, Nat.le_of_ble_eq_true rfl⟩ (Nat.le_of_ble_eq_true rfl) rfl dX6_counted_122 ⟨rfl, rfl⟩ ⟨Nat.zero_le _, Nat.zero_le _⟩ rfl ?_
    exact g_iret C dX6_counted_125 (⟨by rw [s_3, cnI_3, fSm_3]; exact R.bad, rfl⟩) (Nat.zero_le _) (Nat.zero_le _)
  by_cases s_4 : w = 4
  · skip
    refine g_tswI (t := 61) 4 C dX6_counted_3 (by rw [s_4]; rfl) (by decide) (by decide) rfl (by decide) ?_
    refine g_aload_n (q := 62) C dX6_counted_61 rfl (by first | exact hRef_r _ | exact hRef_o _ | exact hRef_n) rfl ?_
    refine g_get (q := 65) C hcl_X6 5 (by decide) qw_714 rfl dX6_counted_62 (by first | exact mM | exact mS) rfl rfl ?_
    exact g_iret C dX6_counted_65 (⟨by rw [s_4, cnI_4], rfl⟩) (Nat.zero_le _) (Nat.zero_le _)
  by_cases s_5 : w = 5
  · skip
    refine g_tswI (t := 66) 5 C dX6_counted_3 (by rw [s_5]; rfl) (by decide) (by decide) rfl (by decide) ?_
    refine g_iconst (q := 67) (0) C dX6_counted_66 (by decide) rfl ?_
    refine g_istore3 (q := 68) C dX6_counted_67 (by first | rfl | exact hNw_rf _) rfl ?_
    refine h_loopU (P := fun i => ∀ acc : Int32, acc = hIt (fun i s => if sG S i < sM S i then s else s + 1) 0 i → hG Γ k9 _ _ M 0 0 68 [some (.ref m), some (.int w), some (.int acc), some (.int (nI i))] []) (N := sO S) (fun i hi ih => ?_) 0 (Nat.zero_le _) _ rfl
    intro acc hacc
    refine g_iload_n (q := 69) C dX6_counted_68 rfl rfl ?_
    refine g_aload_n (q := 70) C dX6_counted_69 rfl (by first | exact hRef_r _ | exact hRef_o _ | exact hRef_n) rfl ?_
    refine g_get (q := 73) C hcl_X6 5 (by decide) qw_714 rfl dX6_counted_70 (by first | exact mM | exact mS) rfl rfl ?_
    refine g_icmp_ge (t := 105) (q := 76) C dX6_counted_73 (by decide) rfl (fun c_73 => ?_) (fun c_73 => ?_)
    · skip
      have hN := nI_ge_eq hi (by omega) c_73
      subst hN
      refine g_iload_n (q := 106) C dX6_counted_105 rfl rfl ?_
      exact g_iret C dX6_counted_106 (⟨by rw [s_5, cnI_5]; exact hacc, rfl⟩) (Nat.zero_le _) (Nat.zero_le _)
    · skip
      have hlt := nI_nge_lt hi (by omega) c_73
      refine g_iload_n (q := 77) C dX6_counted_76 rfl rfl ?_
      refine g_aload_n (q := 78) C dX6_counted_77 rfl (by first | exact hRef_r _ | exact hRef_o _ | exact hRef_n) rfl ?_
      refine g_get (q := 81) C hcl_X6 9 (by decide) qw_718 rfl dX6_counted_78 (by first | exact mM | exact mS) rfl rfl ?_
      refine g_iload_n (q := 82) C dX6_counted_81 rfl rfl ?_
      refine g_iald (q := 83) C i rfl (by omega) (by decide) dX6_counted_82 (mA.at6 (c := 20) (by decide) (by decide)) rfl ?_
      refine g_aload_n (q := 84) C dX6_counted_83 rfl (by first | exact hRef_r _ | exact hRef_o _ | exact hRef_n) rfl ?_
      refine g_get (q := 87) C hcl_X6 7 (by decide) qw_716 rfl dX6_counted_84 (by first | exact mM | exact mS) rfl rfl ?_
      refine g_iload_n (q := 88) C dX6_counted_87 rfl rfl ?_
      refine g_iald (q := 89) C i rfl (by omega) (by decide) dX6_counted_88 (mA.at6 (c := 18) (by decide) (by decide)) rfl ?_
      refine g_icmp_ne (t := 96) (q := 92) C dX6_counted_89 (by decide) rfl (fun c_89 => ?_) (fun c_89 => ?_)
      · skip
        refine g_iconst (q := 97) (0) C dX6_counted_96 (by decide) rfl ?_
        refine g_iadd (q := 98) C dX6_counted_97 rfl ?_
        refine g_istore2 (q := 99) C dX6_counted_98 (by first | rfl | exact hNw_rf _) rfl ?_
        refine g_iinc3 (q := 102) (1) C dX6_counted_99 (by decide) (by first | rfl | exact hNw_rf _) rfl ?_
        refine g_goto (t := 68) C dX6_counted_102 (by decide) ?_
        rw [nI_1]
        refine ih hlt _ ?_
        rw [hIt_s, ← hacc]
        have g1 := (mO i hlt).2.1
        have g2 := (mO i hlt).2.2.2
        have g3 := hI.2.2.2.2 i hlt
        rw [g1, g2] at c_89
        by_cases e9 : sG S i < sM S i
        · simp [e9]
        · exact absurd (Int32.le_antisymm g3 (Int32.not_lt.mp e9)) c_89
      · skip
        refine g_iconst (q := 93) (1) C dX6_counted_92 (by decide) rfl ?_
        refine g_goto (t := 97) C dX6_counted_93 (by decide) ?_
        refine g_iadd (q := 98) C dX6_counted_97 rfl ?_
        refine g_istore2 (q := 99) C dX6_counted_98 (by first | rfl | exact hNw_rf _) rfl ?_
        refine g_iinc3 (q := 102) (1) C dX6_counted_99 (by decide) (by first | rfl | exact hNw_rf _) rfl ?_
        refine g_goto (t := 68) C dX6_counted_102 (by decide) ?_
        rw [nI_1]
        refine ih hlt _ ?_
        rw [hIt_s, ← hacc]
        have g1 := (mO i hlt).2.1
        have g2 := (mO i hlt).2.2.2
        have g3 := hI.2.2.2.2 i hlt
        rw [g1, g2] at c_89
        by_cases e9 : sG S i < sM S i
        · exact absurd e9 (by rw [c_89]; exact Int32.lt_irrefl)
        · simp [e9]
  by_cases s_6 : w = 6
  · skip
    refine g_tswI (t := 107) 6 C dX6_counted_3 (by rw [s_6]; rfl) (by decide) (by decide) rfl (by decide) ?_
    refine g_aload_n (q := 108) C dX6_counted_107 rfl (by first | exact hRef_r _ | exact hRef_o _ | exact hRef_n) rfl ?_
    refine g_get (q := 111) C hcl_X6 10 (by decide) qw_719 rfl dX6_counted_108 (by first | exact mM | exact mS) rfl rfl ?_
    exact g_iret C dX6_counted_111 (⟨by rw [s_6, cnI_6], rfl⟩) (Nat.zero_le _) (Nat.zero_le _)
  by_cases s_7 : w = 7
  · skip
    refine g_tswI (t := 112) 7 C dX6_counted_3 (by rw [s_7]; rfl) (by decide) (by decide) rfl (by decide) ?_
    refine g_aload_n (q := 113) C dX6_counted_112 rfl (by first | exact hRef_r _ | exact hRef_o _ | exact hRef_n) rfl ?_
    refine g_get (q := 116) C hcl_X6 1 (by decide) qw_710 rfl dX6_counted_113 (by first | exact mM | exact mS) rfl rfl ?_
    exact g_iret C dX6_counted_116 (⟨by rw [s_7, cnI_7], rfl⟩) (Nat.zero_le _) (Nat.zero_le _)
  refine g_tswO (t := 117) C dX6_counted_3 (by have n_0 := hNeI s_0 (m := 0) rfl; have n_1 := hNeI s_1 (m := 1) rfl; have n_2 := hNeI s_2 (m := 2) rfl; have n_3 := hNeI s_3 (m := 3) rfl; have n_4 := hNeI s_4 (m := 4) rfl; have n_5 := hNeI s_5 (m := 5) rfl; have n_6 := hNeI s_6 (m := 6) rfl; have n_7 := hNeI s_7 (m := 7) rfl; omega) (by decide) ?_
  refine g_aload_n (q := 118) C dX6_counted_117 rfl (by first | exact hRef_r _ | exact hRef_o _ | exact hRef_n) rfl ?_
  refine g_get (q := 121) C hcl_X6 11 (by decide) qw_720 rfl dX6_counted_118 (by first | exact mM | exact mS) rfl rfl ?_
  refine g_iload_n (q := 122) C dX6_counted_121 rfl rfl ?_
  refine g_callV1P (q := 125) C hy_X5_sum (c_X5_sum Γ l w mA mS (by decide)) qw_782 (by exact mS) rfl ⟨Nat.le_of_ble_eq_true rfl, Nat.le_of_ble_eq_true rfl⟩ (Nat.le_of_ble_eq_true rfl) rfl dX6_counted_122 ⟨rfl, rfl⟩ ⟨Nat.zero_le _, Nat.zero_le _⟩ rfl ?_
  exact g_iret C dX6_counted_125 (⟨by rw [inR_8 hv s_0 s_1 s_2 s_3 s_4 s_5 s_6 s_7, cnI_8, fSm_8]; exact R.sum, rfl⟩) (Nat.zero_le _) (Nat.zero_le _)
set_option maxRecDepth 100000 in
set_option maxHeartbeats 4000000 in
theorem c_X6_herbTold (Γ : hGam) (l : Launch) {M : hM} {m : Nat} {th : Int32} {S : hS} {s ah od : Nat} {ad : Nat → Nat} {G : Nat → Nat → Int32} {d1 d2 : Int32} {h : Nat} (w : Int32) (hQ : mdQ Γ M m th S s ah od ad G d1 d2) (hI : sInv S) (hh : h < sN S) (hv : inR 0 4 w = true) : hMet Γ l yX6_herbTold cX6_herbTold 7 (some .int) rm_X6_herbTold [.ref m, .int (nI h), .int w] M (hpP M (abI S h w)) := by
  have hQc := hQ
  obtain ⟨mM, mA, mS, mAh, mOd, mNe, mH, ⟨mO, mO0⟩, mV⟩ := hQc
  have hn6 := hI.1
  have ho6 := hI.2.1
  have R := mV.rel hI.lt hI.1
  refine hMet_of (by decide +kernel) (Nat.le_of_ble_eq_true rfl) (hCat_cons rfl (hCat_cons rfl (hCat_cons rfl hCat_nil))) (fun k9 C => ?_)
  show hG _ _ _ _ _ _ _ _ [some (.ref m), some (.int (nI h)), some (.int w), none, none, none, none] _
  refine g_iload_n (q := 1) C dX6_herbTold_0 rfl rfl ?_
  refine g_iconst (q := 2) (2) C dX6_herbTold_1 (by decide) rfl ?_
  refine g_icmp_ge (t := 25) (q := 5) C dX6_herbTold_2 (by decide) rfl (fun c_2 => ?_) (fun c_2 => ?_)
  · skip
    refine g_iconst (q := 26) (0) C dX6_herbTold_25 (by decide) rfl ?_
    refine g_istore3 (q := 27) C dX6_herbTold_26 (by first | rfl | exact hNw_rf _) rfl ?_
    refine g_iconst (q := 28) (0) C dX6_herbTold_27 (by decide) rfl ?_
    refine g_istore4 (q := 30) C dX6_herbTold_28 (by first | rfl | exact hNw_rf _) rfl ?_
    refine g_iconst (q := 31) (-1) C dX6_herbTold_30 (by decide) rfl ?_
    refine g_istore5 (q := 33) C dX6_herbTold_31 (by first | rfl | exact hNw_rf _) rfl ?_
    refine g_iconst (q := 34) (0) C dX6_herbTold_33 (by decide) rfl ?_
    refine g_istore6 (q := 36) C dX6_herbTold_34 (by first | rfl | exact hNw_rf _) rfl ?_
    refine h_loopU (P := fun i => ∀ a b c : Int32, a = hIt (fCntO (sB S) (some h)) 0 i → b = hIt (fBadO (sB S) (some h)) 0 i → c = hIt (fLst (sB S) (some h)) (-1) i → (c = -1 ∨ 0 ≤ c) → hG Γ k9 _ _ M 0 0 36 [some (.ref m), some (.int (nI h)), some (.int w), some (.int a), some (.int b), some (.int c), some (.int (nI i))] []) (N := 40) (fun i hi ih => ?_) 0 (Nat.zero_le _) _ _ _ rfl rfl rfl (Or.inl rfl)
    intro a b c ha hb hc0 hc
    refine g_iload (q := 38) C dX6_herbTold_36 rfl rfl ?_
    refine g_bipush (q := 40) (40) C dX6_herbTold_38 (by decide) rfl ?_
    refine g_icmp_ge (t := 122) (q := 43) C dX6_herbTold_40 (by decide) rfl (fun c_40 => ?_) (fun c_40 => ?_)
    · skip
      have hN := nI_ge_eq hi (by decide) c_40
      subst hN
      refine g_iload_n (q := 123) C dX6_herbTold_122 rfl rfl ?_
      refine g_iconst (q := 124) (2) C dX6_herbTold_123 (by decide) rfl ?_
      refine g_icmp_ne (t := 131) (q := 127) C dX6_herbTold_124 (by decide) rfl (fun c_124 => ?_) (fun c_124 => ?_)
      · skip
        refine g_iload_n (q := 132) C dX6_herbTold_131 rfl rfl ?_
        refine g_iconst (q := 133) (3) C dX6_herbTold_132 (by decide) rfl ?_
        refine g_icmp_ne (t := 141) (q := 136) C dX6_herbTold_133 (by decide) rfl (fun c_133 => ?_) (fun c_133 => ?_)
        · skip
          refine g_iload (q := 143) C dX6_herbTold_141 rfl rfl ?_
          exact g_iret C dX6_herbTold_143 (⟨by unfold abI; rw [if_neg (fun q => by rw [q] at c_2; exact absurd c_2 (by decide)), if_neg (fun q => by rw [q] at c_2; exact absurd c_2 (by decide)), if_neg c_124, if_neg c_133]; exact hc0, rfl⟩) (Nat.zero_le _) (Nat.zero_le _)
        · skip
          refine g_iload (q := 138) C dX6_herbTold_136 rfl rfl ?_
          refine g_goto (t := 143) C dX6_herbTold_138 (by decide) ?_
          exact g_iret C dX6_herbTold_143 (⟨by rw [hb, c_133, abI_3], rfl⟩) (Nat.zero_le _) (Nat.zero_le _)
      · skip
        refine g_iload_n (q := 128) C dX6_herbTold_127 rfl rfl ?_
        refine g_goto (t := 143) C dX6_herbTold_128 (by decide) ?_
        exact g_iret C dX6_herbTold_143 (⟨by rw [ha, c_124, abI_2], rfl⟩) (Nat.zero_le _) (Nat.zero_le _)
    · skip
      have hlt := nI_nge_lt hi (by decide) c_40
      refine g_aload_n (q := 44) C dX6_herbTold_43 rfl (by first | exact hRef_r _ | exact hRef_o _ | exact hRef_n) rfl ?_
      refine g_get (q := 47) C hcl_X6 11 (by decide) qw_720 rfl dX6_herbTold_44 (by first | exact mM | exact mS) rfl rfl ?_
      refine g_getN (q := 50) C hcl_X5 1 (by decide) qw_686 rfl dX6_herbTold_47 (by first | exact mM | exact mS) rfl rfl ?_
      refine g_iload (q := 52) C dX6_herbTold_50 rfl rfl ?_
      refine g_iald (q := 53) C i rfl (hlt) (by decide) dX6_herbTold_52 (mA.at0 (c := 0) (by decide)) rfl ?_
      refine g_iload_n (q := 54) C dX6_herbTold_53 rfl rfl ?_
      refine g_icmp_eq (t := 60) (q := 57) C dX6_herbTold_54 (by decide) rfl (fun c_54 => ?_) (fun c_54 => ?_)
      · skip
        refine g_iinc3 (q := 63) (1) C dX6_herbTold_60 (by decide) (by first | rfl | exact hNw_rf _) rfl ?_
        refine g_aload_n (q := 64) C dX6_herbTold_63 rfl (by first | exact hRef_r _ | exact hRef_o _ | exact hRef_n) rfl ?_
        refine g_get (q := 67) C hcl_X6 11 (by decide) qw_720 rfl dX6_herbTold_64 (by first | exact mM | exact mS) rfl rfl ?_
        refine g_getN (q := 70) C hcl_X5 5 (by decide) qw_694 rfl dX6_herbTold_67 (by first | exact mM | exact mS) rfl rfl ?_
        refine g_iload (q := 72) C dX6_herbTold_70 rfl rfl ?_
        refine g_iald (q := 73) C i rfl (hlt) (by decide) dX6_herbTold_72 (mA.at0 (c := 4) (by decide)) rfl ?_
        refine g_if_le (t := 82) (q := 76) C dX6_herbTold_73 (by decide) rfl (fun c_73 => ?_) (fun c_73 => ?_)
        · skip
          refine g_iload (q := 84) C dX6_herbTold_82 rfl rfl ?_
          refine g_iconst (q := 85) (-1) C dX6_herbTold_84 (by decide) rfl ?_
          refine g_icmp_ne (t := 100) (q := 88) C dX6_herbTold_85 (by decide) rfl (fun c_85 => ?_) (fun c_85 => ?_)
          · skip
            refine g_iload (q := 102) C dX6_herbTold_100 rfl rfl ?_
            refine g_aload_n (q := 103) C dX6_herbTold_102 rfl (by first | exact hRef_r _ | exact hRef_o _ | exact hRef_n) rfl ?_
            refine g_get (q := 106) C hcl_X6 11 (by decide) qw_720 rfl dX6_herbTold_103 (by first | exact mM | exact mS) rfl rfl ?_
            refine g_iload (q := 108) C dX6_herbTold_106 rfl rfl ?_
            refine g_callV1P (q := 111) C hy_X5_wetness (c_X5_wetness Γ l i mA mS (by decide) hlt) qw_795 (by exact mS) rfl ⟨Nat.le_of_ble_eq_true rfl, Nat.le_of_ble_eq_true rfl⟩ (Nat.le_of_ble_eq_true rfl) rfl dX6_herbTold_108 ⟨rfl, rfl⟩ ⟨Nat.zero_le _, Nat.zero_le _⟩ rfl ?_
            refine g_min (q := 114) C qw_870 rfl dX6_herbTold_111 (by decide) (Nat.le_of_ble_eq_true rfl) (Nat.zero_le _) (Nat.zero_le _) rfl hw_min ?_
            refine g_istore5 (q := 116) C dX6_herbTold_114 (by first | rfl | exact hNw_rf _) rfl ?_
            refine g_iinc6 (q := 119) (1) C dX6_herbTold_116 (by decide) (by first | rfl | exact hNw_rf _) rfl ?_
            refine g_goto (t := 36) C dX6_herbTold_119 (by decide) ?_
            rw [nI_1]
            obtain ⟨z1, -, -⟩ := hit8 mV hI.lt hn6 hlt hh c_54 a
            obtain ⟨-, z2, -⟩ := hit8 mV hI.lt hn6 hlt hh c_54 b
            obtain ⟨-, -, z3⟩ := hit8 mV hI.lt hn6 hlt hh c_54 c
            have ht : (sB S i).1.isSome = true := by rw [(mV.code hI.lt hn6 hlt hh).mp c_54]; rfl
            have hw9 : 0 ≤ bWet (vG G 0 i) := by rw [R.wt hlt ht]; exact wet_nn hI hlt ht
            have g9 : ¬ 0 < G 4 i := Int32.not_lt.mpr c_73
            rw [if_neg g9] at z2 z3
            have g8 : ¬ c < 0 := Int32.not_lt.mpr (hc.resolve_left c_85)
            rw [if_neg g8] at z3
            refine ih hlt _ _ _ ?_ ?_ ?_ (Or.inr (by split; exact hw9; exact hc.resolve_left c_85))
            · rw [hIt_s, ← ha, z1]
            · rw [hIt_s, ← hb, z2]
            · rw [hIt_s, ← hc0, z3]; exact min9
          · skip
            refine g_aload_n (q := 89) C dX6_herbTold_88 rfl (by first | exact hRef_r _ | exact hRef_o _ | exact hRef_n) rfl ?_
            refine g_get (q := 92) C hcl_X6 11 (by decide) qw_720 rfl dX6_herbTold_89 (by first | exact mM | exact mS) rfl rfl ?_
            refine g_iload (q := 94) C dX6_herbTold_92 rfl rfl ?_
            refine g_callV1P (q := 97) C hy_X5_wetness (c_X5_wetness Γ l i mA mS (by decide) hlt) qw_795 (by exact mS) rfl ⟨Nat.le_of_ble_eq_true rfl, Nat.le_of_ble_eq_true rfl⟩ (Nat.le_of_ble_eq_true rfl) rfl dX6_herbTold_94 ⟨rfl, rfl⟩ ⟨Nat.zero_le _, Nat.zero_le _⟩ rfl ?_
            refine g_goto (t := 114) C dX6_herbTold_97 (by decide) ?_
            refine g_istore5 (q := 116) C dX6_herbTold_114 (by first | rfl | exact hNw_rf _) rfl ?_
            refine g_iinc6 (q := 119) (1) C dX6_herbTold_116 (by decide) (by first | rfl | exact hNw_rf _) rfl ?_
            refine g_goto (t := 36) C dX6_herbTold_119 (by decide) ?_
            rw [nI_1]
            obtain ⟨z1, -, -⟩ := hit8 mV hI.lt hn6 hlt hh c_54 a
            obtain ⟨-, z2, -⟩ := hit8 mV hI.lt hn6 hlt hh c_54 b
            obtain ⟨-, -, z3⟩ := hit8 mV hI.lt hn6 hlt hh c_54 c
            have ht : (sB S i).1.isSome = true := by rw [(mV.code hI.lt hn6 hlt hh).mp c_54]; rfl
            have hw9 : 0 ≤ bWet (vG G 0 i) := by rw [R.wt hlt ht]; exact wet_nn hI hlt ht
            have g9 : ¬ 0 < G 4 i := Int32.not_lt.mpr c_73
            rw [if_neg g9] at z2 z3
            rw [c_85, if_pos m1lt] at z3
            refine ih hlt _ _ _ ?_ ?_ ?_ (Or.inr hw9)
            · rw [hIt_s, ← ha, z1]
            · rw [hIt_s, ← hb, z2]
            · rw [hIt_s, ← hc0, c_85, z3]
        · skip
          refine g_iinc4 (q := 79) (1) C dX6_herbTold_76 (by decide) (by first | rfl | exact hNw_rf _) rfl ?_
          refine g_goto (t := 116) C dX6_herbTold_79 (by decide) ?_
          refine g_iinc6 (q := 119) (1) C dX6_herbTold_116 (by decide) (by first | rfl | exact hNw_rf _) rfl ?_
          refine g_goto (t := 36) C dX6_herbTold_119 (by decide) ?_
          rw [nI_1]
          obtain ⟨z1, -, -⟩ := hit8 mV hI.lt hn6 hlt hh c_54 a
          obtain ⟨-, z2, -⟩ := hit8 mV hI.lt hn6 hlt hh c_54 b
          obtain ⟨-, -, z3⟩ := hit8 mV hI.lt hn6 hlt hh c_54 c
          have ht : (sB S i).1.isSome = true := by rw [(mV.code hI.lt hn6 hlt hh).mp c_54]; rfl
          have hw9 : 0 ≤ bWet (vG G 0 i) := by rw [R.wt hlt ht]; exact wet_nn hI hlt ht
          have g9 := Int32.not_le.mp c_73
          rw [if_pos g9] at z2 z3
          refine ih hlt _ _ _ ?_ ?_ ?_ hc
          · rw [hIt_s, ← ha, z1]
          · rw [hIt_s, ← hb, z2]
          · rw [hIt_s, ← hc0, z3]
      · skip
        refine g_goto (t := 116) C dX6_herbTold_57 (by decide) ?_
        refine g_iinc6 (q := 119) (1) C dX6_herbTold_116 (by decide) (by first | rfl | exact hNw_rf _) rfl ?_
        refine g_goto (t := 36) C dX6_herbTold_119 (by decide) ?_
        rw [nI_1]
        have z1 := (hit9 mV hI.lt hn6 hlt hh c_54 a).1
        have z2 := (hit9 mV hI.lt hn6 hlt hh c_54 b).2.1
        have z3 := (hit9 mV hI.lt hn6 hlt hh c_54 c).2.2
        refine ih hlt _ _ _ ?_ ?_ ?_ hc
        · rw [hIt_s, ← ha, z1]
        · rw [hIt_s, ← hb, z2]
        · rw [hIt_s, ← hc0, z3]
  · skip
    refine g_iload_n (q := 6) C dX6_herbTold_5 rfl rfl ?_
    refine g_if_ne (t := 18) (q := 9) C dX6_herbTold_6 (by decide) rfl (fun c_6 => ?_) (fun c_6 => ?_)
    · skip
      refine g_aload_n (q := 19) C dX6_herbTold_18 rfl (by first | exact hRef_r _ | exact hRef_o _ | exact hRef_n) rfl ?_
      refine g_get (q := 22) C hcl_X6 4 (by decide) qw_713 rfl dX6_herbTold_19 (by first | exact mM | exact mS) rfl rfl ?_
      refine g_iload_n (q := 23) C dX6_herbTold_22 rfl rfl ?_
      refine g_iald (q := 24) C h rfl (by omega) (by decide) dX6_herbTold_23 (mA.at6 (c := 16) (by decide) (by decide)) rfl ?_
      exact g_iret C dX6_herbTold_24 (⟨by rw [inR_lt2 hv c_2 c_6, abI_1]; exact (mH h hh).2, rfl⟩) (Nat.zero_le _) (Nat.zero_le _)
    · skip
      refine g_aload_n (q := 10) C dX6_herbTold_9 rfl (by first | exact hRef_r _ | exact hRef_o _ | exact hRef_n) rfl ?_
      refine g_get (q := 13) C hcl_X6 3 (by decide) qw_712 rfl dX6_herbTold_10 (by first | exact mM | exact mS) rfl rfl ?_
      refine g_iload_n (q := 14) C dX6_herbTold_13 rfl rfl ?_
      refine g_iald (q := 15) C h rfl (by omega) (by decide) dX6_herbTold_14 (mA.at6 (c := 15) (by decide) (by decide)) rfl ?_
      refine g_goto (t := 24) C dX6_herbTold_15 (by decide) ?_
      exact g_iret C dX6_herbTold_24 (⟨by rw [c_6, abI_0]; exact (mH h hh).1, rfl⟩) (Nat.zero_le _) (Nat.zero_le _)
