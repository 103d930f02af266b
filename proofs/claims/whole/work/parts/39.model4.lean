theorem dig_flat (S : hS) : sDig S = hIt (fun i d => hIt (fun w d => dgS (tellI (sB S) i (nI w)) d) d 6) (hIt (fun o d => hIt (fun w d => dgS (asI S o (nI w)) d) d 5) (hIt (fun h d => hIt (fun w d => dgS (abI S h (nI w)) d) d 5) (hIt (fun w d => dgS (cnI S (nI w)) d) 1831 9) (sN S)) (sO S)) 40 := by
  show hIt (fun s d => hIt (fun h d => hIt (fun w d => dgS (tellI (sB S) (s * 8 + h) (nI w)) d) d 6) d 8) (hIt (fun o d => hIt (fun w d => dgS (asI S o (nI w)) d) d 5) (hIt (fun h d => hIt (fun w d => dgS (abI S h (nI w)) d) d 5) (hIt (fun w d => dgS (cnI S (nI w)) d) 1831 9) (sN S)) (sO S)) 5 = _
  exact flat8 (fun i d => hIt (fun w d => dgS (tellI (sB S) i (nI w)) d) d 6) _ 5
set_option maxRecDepth 100000 in
set_option maxHeartbeats 4000000 in
theorem c_X6_told (Γ : hGam) (l : Launch) {M : hM} {m : Nat} {th : Int32} {S : hS} (p q w : Int32) (hP : mdP Γ M m th S) (hI : sInv S) : hMet Γ l yX6_told cX6_told 4 (some .int) rm_X6_told [.ref m, .int p, .int q, .int w] M (hpI (fun a M1 => mdP Γ M1 m (nI (sTold S p q w).1) S ∧ ((sTold S p q w).1 = 0 → a = (sTold S p q w).2) ∧ hKm M M1)) := by
  obtain ⟨s, ah, od, ad, G, d1, d2, hQ0⟩ := hP
  refine hMet_of (by decide +kernel) (Nat.le_of_ble_eq_true rfl) (hCat_cons rfl (hCat_cons rfl (hCat_cons rfl (hCat_cons rfl hCat_nil)))) (fun k9 C => ?_)
  show hG _ _ _ _ _ _ _ _ [some (.ref m), some (.int p), some (.int q), some (.int w)] _
  refine g_aload_n (q := 1) C dX6_told_0 rfl (by first | exact hRef_r _ | exact hRef_o _ | exact hRef_n) rfl ?_
  refine g_iconst (q := 2) (0) C dX6_told_1 (by decide) rfl ?_
  refine g_put (q := 5) C hcl_X6 0 (by decide) qw_709 rfl rfl rfl rfl dX6_told_2 (by exact hQ0.1) (Nat.le_of_ble_eq_true rfl) rfl ?_
  (try rw [hU_2])
  obtain ⟨hQ, hK0⟩ := hQ0.own 0
  obtain ⟨M0, hM0⟩ : ∃ Mz, Mz = hU M m (oModel 0 (sWin S) (nI (sN S)) (some (ad 15)) (some (ad 16)) (nI (sO S)) (some (ad 17)) (some (ad 18)) (some (ad 19)) (some (ad 20)) (givn S) (some s) (some ah) (some od)) := ⟨_, rfl⟩
  refine g_eqw (M1 := M0) hM0.symm ?_
  rw [← hM0] at hQ hK0
  have hQc := hQ
  obtain ⟨mM, mA, mS, mAh, mOd, mNe, mH, ⟨mO, mO0⟩, mV⟩ := hQc
  have hn6 := hI.1
  have ho6 := hI.2.1
  have R := mV.rel hI.lt hI.1
  refine g_iload_n (q := 6) C dX6_told_5 rfl rfl ?_
  refine g_iload_n (q := 7) C dX6_told_6 rfl rfl ?_
  refine g_callS2P (q := 10) C hy_X6_isHook (c_X6_isHook Γ l p q) qw_771 ⟨Nat.le_of_ble_eq_true rfl, Nat.le_of_ble_eq_true rfl⟩ (Nat.le_of_ble_eq_true rfl) rfl dX6_told_7 ⟨rfl, rfl⟩ ⟨Nat.zero_le _, Nat.zero_le _⟩ rfl ?_
  refine g_ifB_eq (t := 37) (q := 13) C dX6_told_10 (by decide) rfl (fun c_10 => ?_) (fun c_10 => ?_)
  · skip
    have f_10 : isHk p q = false := c_10
    refine g_aload_n (q := 38) C dX6_told_37 rfl (by first | exact hRef_r _ | exact hRef_o _ | exact hRef_n) rfl ?_
    refine g_iconst (q := 39) (1) C dX6_told_38 (by decide) rfl ?_
    refine g_callV1I (q := 42) C hy_X6_no (c_X6_no Γ l 1 hQ hI) qw_763 (by exact mM) rfl ⟨Nat.le_of_ble_eq_true rfl, Nat.le_of_ble_eq_true rfl⟩ (Nat.le_of_ble_eq_true rfl) rfl dX6_told_39 ⟨rfl, rfl⟩ ⟨Nat.zero_le _, Nat.zero_le _⟩ rfl (fun x_39 M_39 p_39 => ?_)
    exact g_iret C dX6_told_42 (by have e_ : sTold S p q w = (1, 0) := (by simp [sTold, f_10]); rw [e_]; exact ⟨p_39.2.1.P, fun q => absurd (show (1 : Nat) = 0 from q) (by decide), hK0.tr p_39.2.2⟩) (Nat.zero_le _) (Nat.zero_le _)
  · skip
    have f_10 : isHk p q = true := c_10
    refine g_iload_n (q := 14) C dX6_told_13 rfl rfl ?_
    refine g_iconst (q := 15) (0) C dX6_told_14 (by decide) rfl ?_
    refine g_bipush (q := 17) (7) C dX6_told_15 (by decide) rfl ?_
    refine g_callS3P (q := 20) C hy_X6_isIn (c_X6_isIn Γ l w 0 7) qw_760 ⟨Nat.le_of_ble_eq_true rfl, Nat.le_of_ble_eq_true rfl⟩ (Nat.le_of_ble_eq_true rfl) rfl dX6_told_17 ⟨rfl, rfl⟩ ⟨Nat.zero_le _, Nat.zero_le _⟩ rfl ?_
    refine g_ifB_eq (t := 37) (q := 23) C dX6_told_20 (by decide) rfl (fun c_20 => ?_) (fun c_20 => ?_)
    · skip
      have f_20 : inR 0 7 w = false := c_20
      refine g_aload_n (q := 38) C dX6_told_37 rfl (by first | exact hRef_r _ | exact hRef_o _ | exact hRef_n) rfl ?_
      refine g_iconst (q := 39) (1) C dX6_told_38 (by decide) rfl ?_
      refine g_callV1I (q := 42) C hy_X6_no (c_X6_no Γ l 1 hQ hI) qw_763 (by exact mM) rfl ⟨Nat.le_of_ble_eq_true rfl, Nat.le_of_ble_eq_true rfl⟩ (Nat.le_of_ble_eq_true rfl) rfl dX6_told_39 ⟨rfl, rfl⟩ ⟨Nat.zero_le _, Nat.zero_le _⟩ rfl (fun x_39 M_39 p_39 => ?_)
      exact g_iret C dX6_told_42 (by have e_ : sTold S p q w = (1, 0) := (by simp [sTold, f_10, f_20]); rw [e_]; exact ⟨p_39.2.1.P, fun q => absurd (show (1 : Nat) = 0 from q) (by decide), hK0.tr p_39.2.2⟩) (Nat.zero_le _) (Nat.zero_le _)
    · skip
      have f_20 : inR 0 7 w = true := c_20
      obtain ⟨a, b, ha, hb, rfl, rfl, hix⟩ := isHk_nI f_10
      have hi : a * 8 + b < 40 := by omega
      refine g_aload_n (q := 24) C dX6_told_23 rfl (by first | exact hRef_r _ | exact hRef_o _ | exact hRef_n) rfl ?_
      refine g_bipush (q := 26) (8) C dX6_told_24 (by decide) rfl ?_
      refine g_iload_n (q := 27) C dX6_told_26 rfl rfl ?_
      refine g_imul (q := 28) C dX6_told_27 rfl ?_
      refine g_iload_n (q := 29) C dX6_told_28 rfl rfl ?_
      refine g_iadd (q := 30) C dX6_told_29 rfl ?_
      rw [ix_md]
      refine g_iload_n (q := 31) C dX6_told_30 rfl rfl ?_
      refine g_callV2P (q := 34) C hy_X6_bundleTold (c_X6_bundleTold Γ l w hQ hI hi) qw_883 (by exact mM) rfl ⟨Nat.le_of_ble_eq_true rfl, Nat.le_of_ble_eq_true rfl⟩ (Nat.le_of_ble_eq_true rfl) rfl dX6_told_31 ⟨rfl, rfl⟩ ⟨Nat.zero_le _, Nat.zero_le _⟩ rfl ?_
      refine g_goto (t := 42) C dX6_told_34 (by decide) ?_
      exact g_iret C dX6_told_42 (by have e_ : sTold S (nI a) (nI b) w = (0, tellI (sB S) (a * 8 + b) w) := (by simp [sTold, f_10, f_20, hix]); rw [e_]; exact ⟨hQ.P, fun _ => rfl, hK0⟩) (Nat.zero_le _) (Nat.zero_le _)
set_option maxRecDepth 100000 in
set_option maxHeartbeats 4000000 in
theorem c_X6_about (Γ : hGam) (l : Launch) {M : hM} {m : Nat} {th : Int32} {S : hS} (h w : Int32) (hP : mdP Γ M m th S) (hI : sInv S) : hMet Γ l yX6_about cX6_about 3 (some .int) rm_X6_about [.ref m, .int h, .int w] M (hpI (fun a M1 => mdP Γ M1 m (nI (sAbout S h w).1) S ∧ ((sAbout S h w).1 = 0 → a = (sAbout S h w).2) ∧ hKm M M1)) := by
  obtain ⟨s, ah, od, ad, G, d1, d2, hQ0⟩ := hP
  refine hMet_of (by decide +kernel) (Nat.le_of_ble_eq_true rfl) (hCat_cons rfl (hCat_cons rfl (hCat_cons rfl hCat_nil))) (fun k9 C => ?_)
  show hG _ _ _ _ _ _ _ _ [some (.ref m), some (.int h), some (.int w)] _
  refine g_aload_n (q := 1) C dX6_about_0 rfl (by first | exact hRef_r _ | exact hRef_o _ | exact hRef_n) rfl ?_
  refine g_iconst (q := 2) (0) C dX6_about_1 (by decide) rfl ?_
  refine g_put (q := 5) C hcl_X6 0 (by decide) qw_709 rfl rfl rfl rfl dX6_about_2 (by exact hQ0.1) (Nat.le_of_ble_eq_true rfl) rfl ?_
  (try rw [hU_2])
  obtain ⟨hQ, hK0⟩ := hQ0.own 0
  obtain ⟨M0, hM0⟩ : ∃ Mz, Mz = hU M m (oModel 0 (sWin S) (nI (sN S)) (some (ad 15)) (some (ad 16)) (nI (sO S)) (some (ad 17)) (some (ad 18)) (some (ad 19)) (some (ad 20)) (givn S) (some s) (some ah) (some od)) := ⟨_, rfl⟩
  refine g_eqw (M1 := M0) hM0.symm ?_
  rw [← hM0] at hQ hK0
  have hQc := hQ
  obtain ⟨mM, mA, mS, mAh, mOd, mNe, mH, ⟨mO, mO0⟩, mV⟩ := hQc
  have hn6 := hI.1
  have ho6 := hI.2.1
  have R := mV.rel hI.lt hI.1
  refine g_aload_n (q := 6) C dX6_about_5 rfl (by first | exact hRef_r _ | exact hRef_o _ | exact hRef_n) rfl ?_
  refine g_iload_n (q := 7) C dX6_about_6 rfl rfl ?_
  refine g_callV1P (q := 10) C hy_X6_isHerb (c_X6_isHerb Γ l h hQ hI) qw_774 (by exact mM) rfl ⟨Nat.le_of_ble_eq_true rfl, Nat.le_of_ble_eq_true rfl⟩ (Nat.le_of_ble_eq_true rfl) rfl dX6_about_7 ⟨rfl, rfl⟩ ⟨Nat.zero_le _, Nat.zero_le _⟩ rfl ?_
  refine g_ifB_eq (t := 31) (q := 13) C dX6_about_10 (by decide) rfl (fun c_10 => ?_) (fun c_10 => ?_)
  · skip
    have f_10 : isH S h = false := c_10
    refine g_aload_n (q := 32) C dX6_about_31 rfl (by first | exact hRef_r _ | exact hRef_o _ | exact hRef_n) rfl ?_
    refine g_iconst (q := 33) (1) C dX6_about_32 (by decide) rfl ?_
    refine g_callV1I (q := 36) C hy_X6_no (c_X6_no Γ l 1 hQ hI) qw_763 (by exact mM) rfl ⟨Nat.le_of_ble_eq_true rfl, Nat.le_of_ble_eq_true rfl⟩ (Nat.le_of_ble_eq_true rfl) rfl dX6_about_33 ⟨rfl, rfl⟩ ⟨Nat.zero_le _, Nat.zero_le _⟩ rfl (fun x_33 M_33 p_33 => ?_)
    exact g_iret C dX6_about_36 (by have e_ : sAbout S h w = (1, 0) := (by simp [sAbout, f_10]); rw [e_]; exact ⟨p_33.2.1.P, fun q => absurd (show (1 : Nat) = 0 from q) (by decide), hK0.tr p_33.2.2⟩) (Nat.zero_le _) (Nat.zero_le _)
  · skip
    have f_10 : isH S h = true := c_10
    refine g_iload_n (q := 14) C dX6_about_13 rfl rfl ?_
    refine g_iconst (q := 15) (0) C dX6_about_14 (by decide) rfl ?_
    refine g_iconst (q := 16) (4) C dX6_about_15 (by decide) rfl ?_
    refine g_callS3P (q := 19) C hy_X6_isIn (c_X6_isIn Γ l w 0 4) qw_760 ⟨Nat.le_of_ble_eq_true rfl, Nat.le_of_ble_eq_true rfl⟩ (Nat.le_of_ble_eq_true rfl) rfl dX6_about_16 ⟨rfl, rfl⟩ ⟨Nat.zero_le _, Nat.zero_le _⟩ rfl ?_
    refine g_ifB_eq (t := 31) (q := 22) C dX6_about_19 (by decide) rfl (fun c_19 => ?_) (fun c_19 => ?_)
    · skip
      have f_19 : inR 0 4 w = false := c_19
      refine g_aload_n (q := 32) C dX6_about_31 rfl (by first | exact hRef_r _ | exact hRef_o _ | exact hRef_n) rfl ?_
      refine g_iconst (q := 33) (1) C dX6_about_32 (by decide) rfl ?_
      refine g_callV1I (q := 36) C hy_X6_no (c_X6_no Γ l 1 hQ hI) qw_763 (by exact mM) rfl ⟨Nat.le_of_ble_eq_true rfl, Nat.le_of_ble_eq_true rfl⟩ (Nat.le_of_ble_eq_true rfl) rfl dX6_about_33 ⟨rfl, rfl⟩ ⟨Nat.zero_le _, Nat.zero_le _⟩ rfl (fun x_33 M_33 p_33 => ?_)
      exact g_iret C dX6_about_36 (by have e_ : sAbout S h w = (1, 0) := (by simp [sAbout, f_10, f_19]); rw [e_]; exact ⟨p_33.2.1.P, fun q => absurd (show (1 : Nat) = 0 from q) (by decide), hK0.tr p_33.2.2⟩) (Nat.zero_le _) (Nat.zero_le _)
    · skip
      have f_19 : inR 0 4 w = true := c_19
      obtain ⟨hj0, hjj⟩ := isH_ex f_10
      obtain ⟨hj, hjd⟩ : ∃ j, j = hNo h := ⟨_, rfl⟩
      rw [← hjd] at hj0 hjj
      subst hjj
      refine g_aload_n (q := 23) C dX6_about_22 rfl (by first | exact hRef_r _ | exact hRef_o _ | exact hRef_n) rfl ?_
      refine g_iload_n (q := 24) C dX6_about_23 rfl rfl ?_
      refine g_iload_n (q := 25) C dX6_about_24 rfl rfl ?_
      refine g_callV2P (q := 28) C hy_X6_herbTold (c_X6_herbTold Γ l w hQ hI hj0 f_19) qw_891 (by exact mM) rfl ⟨Nat.le_of_ble_eq_true rfl, Nat.le_of_ble_eq_true rfl⟩ (Nat.le_of_ble_eq_true rfl) rfl dX6_about_25 ⟨rfl, rfl⟩ ⟨Nat.zero_le _, Nat.zero_le _⟩ rfl ?_
      refine g_goto (t := 36) C dX6_about_28 (by decide) ?_
      exact g_iret C dX6_about_36 (by have e_ : sAbout S (nI hj) w = (0, abI S hj w) := (by simp [sAbout, f_10, f_19, ← hjd]); rw [e_]; exact ⟨hQ.P, fun _ => rfl, hK0⟩) (Nat.zero_le _) (Nat.zero_le _)
set_option maxRecDepth 100000 in
set_option maxHeartbeats 4000000 in
theorem c_X6_asked (Γ : hGam) (l : Launch) {M : hM} {m : Nat} {th : Int32} {S : hS} (o w : Int32) (hP : mdP Γ M m th S) (hI : sInv S) : hMet Γ l yX6_asked cX6_asked 3 (some .int) rm_X6_asked [.ref m, .int o, .int w] M (hpI (fun a M1 => mdP Γ M1 m (nI (sAsked S o w).1) S ∧ ((sAsked S o w).1 = 0 → a = (sAsked S o w).2) ∧ hKm M M1)) := by
  obtain ⟨s, ah, od, ad, G, d1, d2, hQ0⟩ := hP
  refine hMet_of (by decide +kernel) (Nat.le_of_ble_eq_true rfl) (hCat_cons rfl (hCat_cons rfl (hCat_cons rfl hCat_nil))) (fun k9 C => ?_)
  show hG _ _ _ _ _ _ _ _ [some (.ref m), some (.int o), some (.int w)] _
  refine g_aload_n (q := 1) C dX6_asked_0 rfl (by first | exact hRef_r _ | exact hRef_o _ | exact hRef_n) rfl ?_
  refine g_iconst (q := 2) (0) C dX6_asked_1 (by decide) rfl ?_
  refine g_put (q := 5) C hcl_X6 0 (by decide) qw_709 rfl rfl rfl rfl dX6_asked_2 (by exact hQ0.1) (Nat.le_of_ble_eq_true rfl) rfl ?_
  (try rw [hU_2])
  obtain ⟨hQ, hK0⟩ := hQ0.own 0
  obtain ⟨M0, hM0⟩ : ∃ Mz, Mz = hU M m (oModel 0 (sWin S) (nI (sN S)) (some (ad 15)) (some (ad 16)) (nI (sO S)) (some (ad 17)) (some (ad 18)) (some (ad 19)) (some (ad 20)) (givn S) (some s) (some ah) (some od)) := ⟨_, rfl⟩
  refine g_eqw (M1 := M0) hM0.symm ?_
  rw [← hM0] at hQ hK0
  have hQc := hQ
  obtain ⟨mM, mA, mS, mAh, mOd, mNe, mH, ⟨mO, mO0⟩, mV⟩ := hQc
  have hn6 := hI.1
  have ho6 := hI.2.1
  have R := mV.rel hI.lt hI.1
  refine g_iload_n (q := 6) C dX6_asked_5 rfl rfl ?_
  refine g_iconst (q := 7) (0) C dX6_asked_6 (by decide) rfl ?_
  refine g_aload_n (q := 8) C dX6_asked_7 rfl (by first | exact hRef_r _ | exact hRef_o _ | exact hRef_n) rfl ?_
  refine g_get (q := 11) C hcl_X6 5 (by decide) qw_714 rfl dX6_asked_8 (by first | exact mM | exact mS) rfl rfl ?_
  refine g_iconst (q := 12) (1) C dX6_asked_11 (by decide) rfl ?_
  refine g_isub (q := 13) C dX6_asked_12 rfl ?_
  refine g_callS3P (q := 16) C hy_X6_isIn (c_X6_isIn Γ l o 0 (nI (sO S) - 1)) qw_760 ⟨Nat.le_of_ble_eq_true rfl, Nat.le_of_ble_eq_true rfl⟩ (Nat.le_of_ble_eq_true rfl) rfl dX6_asked_13 ⟨rfl, rfl⟩ ⟨Nat.zero_le _, Nat.zero_le _⟩ rfl ?_
  refine g_ifB_eq (t := 37) (q := 19) C dX6_asked_16 (by decide) rfl (fun c_16 => ?_) (fun c_16 => ?_)
  · skip
    have f_16 : (decide (0 ≤ o) && decide (o < nI (sO S))) = false := (isO_md ho6 o).symm.trans c_16
    refine g_aload_n (q := 38) C dX6_asked_37 rfl (by first | exact hRef_r _ | exact hRef_o _ | exact hRef_n) rfl ?_
    refine g_iconst (q := 39) (1) C dX6_asked_38 (by decide) rfl ?_
    refine g_callV1I (q := 42) C hy_X6_no (c_X6_no Γ l 1 hQ hI) qw_763 (by exact mM) rfl ⟨Nat.le_of_ble_eq_true rfl, Nat.le_of_ble_eq_true rfl⟩ (Nat.le_of_ble_eq_true rfl) rfl dX6_asked_39 ⟨rfl, rfl⟩ ⟨Nat.zero_le _, Nat.zero_le _⟩ rfl (fun x_39 M_39 p_39 => ?_)
    exact g_iret C dX6_asked_42 (by have e_ : sAsked S o w = (1, 0) := (by unfold sAsked; first | (rw [f_16]; rfl) | (rw [f_16, f_25]; rfl)); rw [e_]; exact ⟨p_39.2.1.P, fun q => absurd (show (1 : Nat) = 0 from q) (by decide), hK0.tr p_39.2.2⟩) (Nat.zero_le _) (Nat.zero_le _)
  · skip
    have f_16 : (decide (0 ≤ o) && decide (o < nI (sO S))) = true := (isO_md ho6 o).symm.trans c_16
    refine g_iload_n (q := 20) C dX6_asked_19 rfl rfl ?_
    refine g_iconst (q := 21) (0) C dX6_asked_20 (by decide) rfl ?_
    refine g_iconst (q := 22) (4) C dX6_asked_21 (by decide) rfl ?_
    refine g_callS3P (q := 25) C hy_X6_isIn (c_X6_isIn Γ l w 0 4) qw_760 ⟨Nat.le_of_ble_eq_true rfl, Nat.le_of_ble_eq_true rfl⟩ (Nat.le_of_ble_eq_true rfl) rfl dX6_asked_22 ⟨rfl, rfl⟩ ⟨Nat.zero_le _, Nat.zero_le _⟩ rfl ?_
    refine g_ifB_eq (t := 37) (q := 28) C dX6_asked_25 (by decide) rfl (fun c_25 => ?_) (fun c_25 => ?_)
    · skip
      have f_25 : inR 0 4 w = false := c_25
      refine g_aload_n (q := 38) C dX6_asked_37 rfl (by first | exact hRef_r _ | exact hRef_o _ | exact hRef_n) rfl ?_
      refine g_iconst (q := 39) (1) C dX6_asked_38 (by decide) rfl ?_
      refine g_callV1I (q := 42) C hy_X6_no (c_X6_no Γ l 1 hQ hI) qw_763 (by exact mM) rfl ⟨Nat.le_of_ble_eq_true rfl, Nat.le_of_ble_eq_true rfl⟩ (Nat.le_of_ble_eq_true rfl) rfl dX6_asked_39 ⟨rfl, rfl⟩ ⟨Nat.zero_le _, Nat.zero_le _⟩ rfl (fun x_39 M_39 p_39 => ?_)
      exact g_iret C dX6_asked_42 (by have e_ : sAsked S o w = (1, 0) := (by unfold sAsked; first | (rw [f_16]; rfl) | (rw [f_16, f_25]; rfl)); rw [e_]; exact ⟨p_39.2.1.P, fun q => absurd (show (1 : Nat) = 0 from q) (by decide), hK0.tr p_39.2.2⟩) (Nat.zero_le _) (Nat.zero_le _)
    · skip
      have f_25 : inR 0 4 w = true := c_25
      obtain ⟨hj0, hjj⟩ := isH_ex (S := ((sO S, sE S, sL S), S.2)) f_16
      obtain ⟨hj, hjd⟩ : ∃ j, j = hNo o := ⟨_, rfl⟩
      rw [← hjd] at hj0 hjj
      subst hjj
      refine g_aload_n (q := 29) C dX6_asked_28 rfl (by first | exact hRef_r _ | exact hRef_o _ | exact hRef_n) rfl ?_
      refine g_iload_n (q := 30) C dX6_asked_29 rfl rfl ?_
      refine g_iload_n (q := 31) C dX6_asked_30 rfl rfl ?_
      refine g_callV2P (q := 34) C hy_X6_orderTold (c_X6_orderTold Γ l w hQ hI hj0) qw_899 (by exact mM) rfl ⟨Nat.le_of_ble_eq_true rfl, Nat.le_of_ble_eq_true rfl⟩ (Nat.le_of_ble_eq_true rfl) rfl dX6_asked_31 ⟨rfl, rfl⟩ ⟨Nat.zero_le _, Nat.zero_le _⟩ rfl ?_
      refine g_goto (t := 42) C dX6_asked_34 (by decide) ?_
      exact g_iret C dX6_asked_42 (by have e_ : sAsked S (nI hj) w = (0, asI S hj w) := (by unfold sAsked; rw [f_16, f_25, ← hjd]; rfl); rw [e_]; exact ⟨hQ.P, fun _ => rfl, hK0⟩) (Nat.zero_le _) (Nat.zero_le _)
set_option maxRecDepth 100000 in
set_option maxHeartbeats 4000000 in
theorem c_X6_count (Γ : hGam) (l : Launch) {M : hM} {m : Nat} {th : Int32} {S : hS} (w : Int32) (hP : mdP Γ M m th S) (hI : sInv S) : hMet Γ l yX6_count cX6_count 2 (some .int) rm_X6_count [.ref m, .int w] M (hpI (fun a M1 => mdP Γ M1 m (nI (sCount S w).1) S ∧ ((sCount S w).1 = 0 → a = (sCount S w).2) ∧ hKm M M1)) := by
  obtain ⟨s, ah, od, ad, G, d1, d2, hQ0⟩ := hP
  refine hMet_of (by decide +kernel) (Nat.le_of_ble_eq_true rfl) (hCat_cons rfl (hCat_cons rfl hCat_nil)) (fun k9 C => ?_)
  show hG _ _ _ _ _ _ _ _ [some (.ref m), some (.int w)] _
  refine g_aload_n (q := 1) C dX6_count_0 rfl (by first | exact hRef_r _ | exact hRef_o _ | exact hRef_n) rfl ?_
  refine g_iconst (q := 2) (0) C dX6_count_1 (by decide) rfl ?_
  refine g_put (q := 5) C hcl_X6 0 (by decide) qw_709 rfl rfl rfl rfl dX6_count_2 (by exact hQ0.1) (Nat.le_of_ble_eq_true rfl) rfl ?_
  (try rw [hU_2])
  obtain ⟨hQ, hK0⟩ := hQ0.own 0
  obtain ⟨M0, hM0⟩ : ∃ Mz, Mz = hU M m (oModel 0 (sWin S) (nI (sN S)) (some (ad 15)) (some (ad 16)) (nI (sO S)) (some (ad 17)) (some (ad 18)) (some (ad 19)) (some (ad 20)) (givn S) (some s) (some ah) (some od)) := ⟨_, rfl⟩
  refine g_eqw (M1 := M0) hM0.symm ?_
  rw [← hM0] at hQ hK0
  have hQc := hQ
  obtain ⟨mM, mA, mS, mAh, mOd, mNe, mH, ⟨mO, mO0⟩, mV⟩ := hQc
  have hn6 := hI.1
  have ho6 := hI.2.1
  have R := mV.rel hI.lt hI.1
  refine g_iload_n (q := 6) C dX6_count_5 rfl rfl ?_
  refine g_iconst (q := 7) (0) C dX6_count_6 (by decide) rfl ?_
  refine g_bipush (q := 9) (8) C dX6_count_7 (by decide) rfl ?_
  refine g_callS3P (q := 12) C hy_X6_isIn (c_X6_isIn Γ l w 0 8) qw_760 ⟨Nat.le_of_ble_eq_true rfl, Nat.le_of_ble_eq_true rfl⟩ (Nat.le_of_ble_eq_true rfl) rfl dX6_count_9 ⟨rfl, rfl⟩ ⟨Nat.zero_le _, Nat.zero_le _⟩ rfl ?_
  refine g_ifB_eq (t := 23) (q := 15) C dX6_count_12 (by decide) rfl (fun c_12 => ?_) (fun c_12 => ?_)
  · skip
    have f_12 : inR 0 8 w = false := c_12
    refine g_aload_n (q := 24) C dX6_count_23 rfl (by first | exact hRef_r _ | exact hRef_o _ | exact hRef_n) rfl ?_
    refine g_iconst (q := 25) (1) C dX6_count_24 (by decide) rfl ?_
    refine g_callV1I (q := 28) C hy_X6_no (c_X6_no Γ l 1 hQ hI) qw_763 (by exact mM) rfl ⟨Nat.le_of_ble_eq_true rfl, Nat.le_of_ble_eq_true rfl⟩ (Nat.le_of_ble_eq_true rfl) rfl dX6_count_25 ⟨rfl, rfl⟩ ⟨Nat.zero_le _, Nat.zero_le _⟩ rfl (fun x_25 M_25 p_25 => ?_)
    exact g_iret C dX6_count_28 (by have e_ : sCount S w = (1, 0) := (by simp [sCount, f_12]); rw [e_]; exact ⟨p_25.2.1.P, fun q => absurd (show (1 : Nat) = 0 from q) (by decide), hK0.tr p_25.2.2⟩) (Nat.zero_le _) (Nat.zero_le _)
  · skip
    have f_12 : inR 0 8 w = true := c_12
    refine g_aload_n (q := 16) C dX6_count_15 rfl (by first | exact hRef_r _ | exact hRef_o _ | exact hRef_n) rfl ?_
    refine g_iload_n (q := 17) C dX6_count_16 rfl rfl ?_
    refine g_callV1P (q := 20) C hy_X6_counted (c_X6_counted Γ l w hQ hI f_12) qw_907 (by exact mM) rfl ⟨Nat.le_of_ble_eq_true rfl, Nat.le_of_ble_eq_true rfl⟩ (Nat.le_of_ble_eq_true rfl) rfl dX6_count_17 ⟨rfl, rfl⟩ ⟨Nat.zero_le _, Nat.zero_le _⟩ rfl ?_
    refine g_goto (t := 28) C dX6_count_20 (by decide) ?_
    exact g_iret C dX6_count_28 (by have e_ : sCount S w = (0, cnI S w) := (by simp [sCount, f_12]); rw [e_]; exact ⟨hQ.P, fun _ => rfl, hK0⟩) (Nat.zero_le _) (Nat.zero_le _)
set_option maxRecDepth 100000 in
set_option maxHeartbeats 4000000 in
theorem c_X6_mean (Γ : hGam) (l : Launch) {M : hM} {m : Nat} {th : Int32} {S : hS} (hP : mdP Γ M m th S) (hI : sInv S) : hMet Γ l yX6_mean cX6_mean 2 (some .double) rm_X6_mean [.ref m] M (hpD (fun a M1 => a = sMean S ∧ mdP Γ M1 m 0 S ∧ hKm M M1)) := by
  obtain ⟨s, ah, od, ad, G, d1, d2, hQ0⟩ := hP
  refine hMet_of (by decide +kernel) (Nat.le_of_ble_eq_true rfl) (hCat_cons rfl hCat_nil) (fun k9 C => ?_)
  show hG _ _ _ _ _ _ _ _ [some (.ref m), none] _
  refine g_aload_n (q := 1) C dX6_mean_0 rfl (by first | exact hRef_r _ | exact hRef_o _ | exact hRef_n) rfl ?_
  refine g_iconst (q := 2) (0) C dX6_mean_1 (by decide) rfl ?_
  refine g_put (q := 5) C hcl_X6 0 (by decide) qw_709 rfl rfl rfl rfl dX6_mean_2 (by exact hQ0.1) (Nat.le_of_ble_eq_true rfl) rfl ?_
  (try rw [hU_2])
  obtain ⟨hQ, hK0⟩ := hQ0.own 0
  obtain ⟨M0, hM0⟩ : ∃ Mz, Mz = hU M m (oModel 0 (sWin S) (nI (sN S)) (some (ad 15)) (some (ad 16)) (nI (sO S)) (some (ad 17)) (some (ad 18)) (some (ad 19)) (some (ad 20)) (givn S) (some s) (some ah) (some od)) := ⟨_, rfl⟩
  refine g_eqw (M1 := M0) hM0.symm ?_
  rw [← hM0] at hQ hK0
  have hQc := hQ
  obtain ⟨mM, mA, mS, mAh, mOd, mNe, mH, ⟨mO, mO0⟩, mV⟩ := hQc
  have hn6 := hI.1
  have ho6 := hI.2.1
  have R := mV.rel hI.lt hI.1
  have hcn := fSm_2.trans R.cnt
  have hsm := fSm_8.trans R.sum
  refine g_aload_n (q := 6) C dX6_mean_5 rfl (by first | exact hRef_r _ | exact hRef_o _ | exact hRef_n) rfl ?_
  refine g_get (q := 9) C hcl_X6 11 (by decide) qw_720 rfl dX6_mean_6 (by first | exact mM | exact mS) rfl rfl ?_
  refine g_iconst (q := 10) (2) C dX6_mean_9 (by decide) rfl ?_
  refine g_callV1P (q := 13) C hy_X5_sum (c_X5_sum Γ l 2 mA mS (by decide)) qw_782 (by exact mS) rfl ⟨Nat.le_of_ble_eq_true rfl, Nat.le_of_ble_eq_true rfl⟩ (Nat.le_of_ble_eq_true rfl) rfl dX6_mean_10 ⟨rfl, rfl⟩ ⟨Nat.zero_le _, Nat.zero_le _⟩ rfl ?_
  refine g_istore1 (q := 14) C dX6_mean_13 (by first | rfl | exact hNw_rf _) rfl ?_
  refine g_iload_n (q := 15) C dX6_mean_14 rfl rfl ?_
  refine g_if_ne (t := 22) (q := 18) C dX6_mean_15 (by decide) rfl (fun c_15 => ?_) (fun c_15 => ?_)
  · skip
    refine g_aload_n (q := 23) C dX6_mean_22 rfl (by first | exact hRef_r _ | exact hRef_o _ | exact hRef_n) rfl ?_
    refine g_get (q := 26) C hcl_X6 11 (by decide) qw_720 rfl dX6_mean_23 (by first | exact mM | exact mS) rfl rfl ?_
    refine g_bipush (q := 28) (8) C dX6_mean_26 (by decide) rfl ?_
    refine g_callV1P (q := 31) C hy_X5_sum (c_X5_sum Γ l 8 mA mS (by decide)) qw_782 (by exact mS) rfl ⟨Nat.le_of_ble_eq_true rfl, Nat.le_of_ble_eq_true rfl⟩ (Nat.le_of_ble_eq_true rfl) rfl dX6_mean_28 ⟨rfl, rfl⟩ ⟨Nat.zero_le _, Nat.zero_le _⟩ rfl ?_
    refine g_i2d (q := 32) C dX6_mean_31 rfl ?_
    refine g_iload_n (q := 33) C dX6_mean_32 rfl rfl ?_
    refine g_i2d (q := 34) C dX6_mean_33 rfl ?_
    refine g_ddiv (q := 35) C (by rw [hcn, hsm]; exact (mean_sm hI (fun q => c_15 (hcn.trans q))).n) dX6_mean_34 rfl ?_
    exact g_dret C dX6_mean_35 (⟨by unfold sMean; rw [if_neg (fun q => c_15 (hcn.trans q)), hcn, hsm], hQ.P, hK0⟩) (Nat.zero_le _) (Nat.zero_le _)
  · skip
    refine g_dconst0 (q := 19) C dX6_mean_18 rfl ?_
    refine g_goto (t := 35) C dX6_mean_19 (by decide) ?_
    exact g_dret C dX6_mean_35 (⟨by unfold sMean; rw [if_pos (hcn.symm.trans c_15)], hQ.P, hK0⟩) (Nat.zero_le _) (Nat.zero_le _)
set_option maxRecDepth 100000 in
set_option maxHeartbeats 4000000 in
theorem c_X6_digest (Γ : hGam) (l : Launch) {M : hM} {m : Nat} {th : Int32} {S : hS} (hP : mdP Γ M m th S) (hI : sInv S) : hMet Γ l yX6_digest cX6_digest 5 (some .long) rm_X6_digest [.ref m] M (hpL (fun a M1 => a = sDig S ∧ mdP Γ M1 m 0 S ∧ hKm M M1)) := by
  obtain ⟨s, ah, od, ad, G, d1, d2, hQ0⟩ := hP
  refine hMet_of (by decide +kernel) (Nat.le_of_ble_eq_true rfl) (hCat_cons rfl hCat_nil) (fun k9 C => ?_)
  show hG _ _ _ _ _ _ _ _ [some (.ref m), none, none, none, none] _
  refine g_aload_n (q := 1) C dX6_digest_0 rfl (by first | exact hRef_r _ | exact hRef_o _ | exact hRef_n) rfl ?_
  refine g_iconst (q := 2) (0) C dX6_digest_1 (by decide) rfl ?_
  refine g_put (q := 5) C hcl_X6 0 (by decide) qw_709 rfl rfl rfl rfl dX6_digest_2 (by exact hQ0.1) (Nat.le_of_ble_eq_true rfl) rfl ?_
  (try rw [hU_2])
  obtain ⟨hQ, hK0⟩ := hQ0.own 0
  obtain ⟨M0, hM0⟩ : ∃ Mz, Mz = hU M m (oModel 0 (sWin S) (nI (sN S)) (some (ad 15)) (some (ad 16)) (nI (sO S)) (some (ad 17)) (some (ad 18)) (some (ad 19)) (some (ad 20)) (givn S) (some s) (some ah) (some od)) := ⟨_, rfl⟩
  refine g_eqw (M1 := M0) hM0.symm ?_
  rw [← hM0] at hQ hK0
  have hQc := hQ
  obtain ⟨mM, mA, mS, mAh, mOd, mNe, mH, ⟨mO, mO0⟩, mV⟩ := hQc
  have hn6 := hI.1
  have ho6 := hI.2.1
  have R := mV.rel hI.lt hI.1
  refine g_ldc2 (q := 8) C dX6_digest_5 qw_943 rfl ?_
  refine g_lstore1 (q := 9) C dX6_digest_8 (by first | rfl | exact hNw_rf _) rfl ?_
  refine g_iconst (q := 10) (0) C dX6_digest_9 (by decide) rfl ?_
  refine g_istore3 (q := 11) C dX6_digest_10 (by first | rfl | exact hNw_rf _) rfl ?_
  refine h_loopU (P := fun w => ∀ (da : Int64) (o4 : Option Value), da = hIt (fun w d => dgS (cnI S (nI w)) d) 1831 w → hG Γ k9 _ _ M0 0 0 11 [some (.ref m), some (.long da), none, some (.int (nI w)), o4] []) (N := 9) (fun w h_da ih_da => ?_) 0 (Nat.zero_le _) _ _ (hIt_0 _ _).symm
  intro da o4 e_da
  refine g_iload_n (q := 12) C dX6_digest_11 rfl rfl ?_
  refine g_bipush (q := 14) (8) C dX6_digest_12 (by decide) rfl ?_
  refine g_icmp_gt (t := 36) (q := 17) C dX6_digest_14 (by decide) rfl (fun c_14 => ?_) (fun c_14 => ?_)
  · skip
    have hN_da := nI_gt_eq h_da (by omega) c_14
    subst hN_da
    refine g_iconst (q := 37) (0) C dX6_digest_36 (by decide) rfl ?_
    refine g_istore3 (q := 38) C dX6_digest_37 (by first | rfl | exact hNw_rf _) rfl ?_
    refine h_loopU (P := fun h => ∀ (db : Int64) (o4 : Option Value), db = hIt (fun h d => hIt (fun w d => dgS (abI S h (nI w)) d) d 5) (hIt (fun w d => dgS (cnI S (nI w)) d) 1831 9) h → hG Γ k9 _ _ M0 0 0 38 [some (.ref m), some (.long db), none, some (.int (nI h)), o4] []) (N := (sN S)) (fun h h_db ih_db => ?_) 0 (Nat.zero_le _) _ _ (by rw [hIt_0]; exact e_da)
    intro db o4 e_db
    refine g_iload_n (q := 39) C dX6_digest_38 rfl rfl ?_
    refine g_aload_n (q := 40) C dX6_digest_39 rfl (by first | exact hRef_r _ | exact hRef_o _ | exact hRef_n) rfl ?_
    refine g_get (q := 43) C hcl_X6 2 (by decide) qw_711 rfl dX6_digest_40 (by first | exact mM | exact mS) rfl rfl ?_
    refine g_icmp_ge (t := 82) (q := 46) C dX6_digest_43 (by decide) rfl (fun c_43 => ?_) (fun c_43 => ?_)
    · skip
      have hN_db := nI_ge_eq h_db (by omega) c_43
      subst hN_db
      refine g_iconst (q := 83) (0) C dX6_digest_82 (by decide) rfl ?_
      refine g_istore3 (q := 84) C dX6_digest_83 (by first | rfl | exact hNw_rf _) rfl ?_
      refine h_loopU (P := fun o => ∀ (dd : Int64) (o4 : Option Value), dd = hIt (fun o d => hIt (fun w d => dgS (asI S o (nI w)) d) d 5) (hIt (fun h d => hIt (fun w d => dgS (abI S h (nI w)) d) d 5) (hIt (fun w d => dgS (cnI S (nI w)) d) 1831 9) (sN S)) o → hG Γ k9 _ _ M0 0 0 84 [some (.ref m), some (.long dd), none, some (.int (nI o)), o4] []) (N := (sO S)) (fun o h_dd ih_dd => ?_) 0 (Nat.zero_le _) _ _ (by rw [hIt_0]; exact e_db)
      intro dd o4 e_dd
      refine g_iload_n (q := 85) C dX6_digest_84 rfl rfl ?_
      refine g_aload_n (q := 86) C dX6_digest_85 rfl (by first | exact hRef_r _ | exact hRef_o _ | exact hRef_n) rfl ?_
      refine g_get (q := 89) C hcl_X6 5 (by decide) qw_714 rfl dX6_digest_86 (by first | exact mM | exact mS) rfl rfl ?_
      refine g_icmp_ge (t := 128) (q := 92) C dX6_digest_89 (by decide) rfl (fun c_89 => ?_) (fun c_89 => ?_)
      · skip
        have hN_dd := nI_ge_eq h_dd (by omega) c_89
        subst hN_dd
        refine g_iconst (q := 129) (0) C dX6_digest_128 (by decide) rfl ?_
        refine g_istore3 (q := 130) C dX6_digest_129 (by first | rfl | exact hNw_rf _) rfl ?_
        refine h_loopU (P := fun i => ∀ (df : Int64) (o4 : Option Value), df = hIt (fun i d => hIt (fun w d => dgS (tellI (sB S) i (nI w)) d) d 6) (hIt (fun o d => hIt (fun w d => dgS (asI S o (nI w)) d) d 5) (hIt (fun h d => hIt (fun w d => dgS (abI S h (nI w)) d) d 5) (hIt (fun w d => dgS (cnI S (nI w)) d) 1831 9) (sN S)) (sO S)) i → hG Γ k9 _ _ M0 0 0 130 [some (.ref m), some (.long df), none, some (.int (nI i)), o4] []) (N := 40) (fun i h_df ih_df => ?_) 0 (Nat.zero_le _) _ _ (by rw [hIt_0]; exact e_dd)
        intro df o4 e_df
        refine g_iload_n (q := 131) C dX6_digest_130 rfl rfl ?_
        refine g_bipush (q := 133) (40) C dX6_digest_131 (by decide) rfl ?_
        refine g_icmp_ge (t := 172) (q := 136) C dX6_digest_133 (by decide) rfl (fun c_133 => ?_) (fun c_133 => ?_)
        · skip
          have hN_df := nI_ge_eq h_df (by omega) c_133
          subst hN_df
          refine g_lload_n (q := 173) C dX6_digest_172 rfl rfl ?_
          exact g_lret C dX6_digest_173 (⟨by rw [e_df]; exact (dig_flat S).symm, hQ.P, hK0⟩) (Nat.zero_le _) (Nat.zero_le _)
        · skip
          have hlt_df := nI_nge_lt h_df (by omega) c_133
          refine g_iconst (q := 137) (0) C dX6_digest_136 (by decide) rfl ?_
          refine g_istore4 (q := 139) C dX6_digest_137 (by first | rfl | exact hNw_rf _) rfl ?_
          refine h_loopU (P := fun w => ∀ (dg : Int64) , dg = hIt (fun w d => dgS (tellI (sB S) i (nI w)) d) df w → hG Γ k9 _ _ M0 0 0 139 [some (.ref m), some (.long dg), none, some (.int (nI i)), some (.int (nI w))] []) (N := 6) (fun w h_dg ih_dg => ?_) 0 (Nat.zero_le _) _  (hIt_0 _ _).symm
          intro dg  e_dg
          refine g_iload (q := 141) C dX6_digest_139 rfl rfl ?_
          refine g_iconst (q := 142) (5) C dX6_digest_141 (by decide) rfl ?_
          refine g_icmp_gt (t := 166) (q := 145) C dX6_digest_142 (by decide) rfl (fun c_142 => ?_) (fun c_142 => ?_)
          · skip
            have hN_dg := nI_gt_eq h_dg (by omega) c_142
            subst hN_dg
            refine g_iinc3 (q := 169) (1) C dX6_digest_166 (by decide) (by first | rfl | exact hNw_rf _) rfl ?_
            refine g_goto (t := 130) C dX6_digest_169 (by decide) ?_
            rw [nI_1]
            refine ih_df hlt_df _ _ ?_
            rw [hIt_s, ← e_df]
            exact e_dg
          · skip
            have hlt_dg := nI_ngt_lt h_dg (by omega) c_142
            refine g_lload_n (q := 146) C dX6_digest_145 rfl rfl ?_
            refine g_ldc2 (q := 149) C dX6_digest_146 qw_944 rfl ?_
            refine g_lmul (q := 150) C dX6_digest_149 rfl ?_
            refine g_aload_n (q := 151) C dX6_digest_150 rfl (by first | exact hRef_r _ | exact hRef_o _ | exact hRef_n) rfl ?_
            refine g_iload_n (q := 152) C dX6_digest_151 rfl rfl ?_
            refine g_iload (q := 154) C dX6_digest_152 rfl rfl ?_
            refine g_callV2P (q := 157) C hy_X6_bundleTold (c_X6_bundleTold Γ l (nI w) hQ hI hlt_df) qw_883 (by exact mM) rfl ⟨Nat.le_of_ble_eq_true rfl, Nat.le_of_ble_eq_true rfl⟩ (Nat.le_of_ble_eq_true rfl) rfl dX6_digest_154 ⟨rfl, rfl⟩ ⟨Nat.zero_le _, Nat.zero_le _⟩ rfl ?_
            refine g_i2l (q := 158) C dX6_digest_157 rfl ?_
            refine g_ladd (q := 159) C dX6_digest_158 rfl ?_
            refine g_lstore1 (q := 160) C dX6_digest_159 (by first | rfl | exact hNw_rf _) rfl ?_
            refine g_iinc4 (q := 163) (1) C dX6_digest_160 (by decide) (by first | rfl | exact hNw_rf _) rfl ?_
            refine g_goto (t := 139) C dX6_digest_163 (by decide) ?_
            rw [nI_1]
            refine ih_dg hlt_dg _  ?_
            rw [hIt_s, ← e_dg]
            rfl
      · skip
        have hlt_dd := nI_nge_lt h_dd (by omega) c_89
        refine g_iconst (q := 93) (0) C dX6_digest_92 (by decide) rfl ?_
        refine g_istore4 (q := 95) C dX6_digest_93 (by first | rfl | exact hNw_rf _) rfl ?_
        refine h_loopU (P := fun w => ∀ (de : Int64) , de = hIt (fun w d => dgS (asI S o (nI w)) d) dd w → hG Γ k9 _ _ M0 0 0 95 [some (.ref m), some (.long de), none, some (.int (nI o)), some (.int (nI w))] []) (N := 5) (fun w h_de ih_de => ?_) 0 (Nat.zero_le _) _  (hIt_0 _ _).symm
        intro de  e_de
        refine g_iload (q := 97) C dX6_digest_95 rfl rfl ?_
        refine g_iconst (q := 98) (4) C dX6_digest_97 (by decide) rfl ?_
        refine g_icmp_gt (t := 122) (q := 101) C dX6_digest_98 (by decide) rfl (fun c_98 => ?_) (fun c_98 => ?_)
        · skip
          have hN_de := nI_gt_eq h_de (by omega) c_98
          subst hN_de
          refine g_iinc3 (q := 125) (1) C dX6_digest_122 (by decide) (by first | rfl | exact hNw_rf _) rfl ?_
          refine g_goto (t := 84) C dX6_digest_125 (by decide) ?_
          rw [nI_1]
          refine ih_dd hlt_dd _ _ ?_
          rw [hIt_s, ← e_dd]
          exact e_de
        · skip
          have hlt_de := nI_ngt_lt h_de (by omega) c_98
          refine g_lload_n (q := 102) C dX6_digest_101 rfl rfl ?_
          refine g_ldc2 (q := 105) C dX6_digest_102 qw_944 rfl ?_
          refine g_lmul (q := 106) C dX6_digest_105 rfl ?_
          refine g_aload_n (q := 107) C dX6_digest_106 rfl (by first | exact hRef_r _ | exact hRef_o _ | exact hRef_n) rfl ?_
          refine g_iload_n (q := 108) C dX6_digest_107 rfl rfl ?_
          refine g_iload (q := 110) C dX6_digest_108 rfl rfl ?_
          refine g_callV2P (q := 113) C hy_X6_orderTold (c_X6_orderTold Γ l (nI w) hQ hI hlt_dd) qw_899 (by exact mM) rfl ⟨Nat.le_of_ble_eq_true rfl, Nat.le_of_ble_eq_true rfl⟩ (Nat.le_of_ble_eq_true rfl) rfl dX6_digest_110 ⟨rfl, rfl⟩ ⟨Nat.zero_le _, Nat.zero_le _⟩ rfl ?_
          refine g_i2l (q := 114) C dX6_digest_113 rfl ?_
          refine g_ladd (q := 115) C dX6_digest_114 rfl ?_
          refine g_lstore1 (q := 116) C dX6_digest_115 (by first | rfl | exact hNw_rf _) rfl ?_
          refine g_iinc4 (q := 119) (1) C dX6_digest_116 (by decide) (by first | rfl | exact hNw_rf _) rfl ?_
          refine g_goto (t := 95) C dX6_digest_119 (by decide) ?_
          rw [nI_1]
          refine ih_de hlt_de _  ?_
          rw [hIt_s, ← e_de]
          rfl
    · skip
      have hlt_db := nI_nge_lt h_db (by omega) c_43
      refine g_iconst (q := 47) (0) C dX6_digest_46 (by decide) rfl ?_
      refine g_istore4 (q := 49) C dX6_digest_47 (by first | rfl | exact hNw_rf _) rfl ?_
      refine h_loopU (P := fun w => ∀ (dc : Int64) , dc = hIt (fun w d => dgS (abI S h (nI w)) d) db w → hG Γ k9 _ _ M0 0 0 49 [some (.ref m), some (.long dc), none, some (.int (nI h)), some (.int (nI w))] []) (N := 5) (fun w h_dc ih_dc => ?_) 0 (Nat.zero_le _) _  (hIt_0 _ _).symm
      intro dc  e_dc
      refine g_iload (q := 51) C dX6_digest_49 rfl rfl ?_
      refine g_iconst (q := 52) (4) C dX6_digest_51 (by decide) rfl ?_
      refine g_icmp_gt (t := 76) (q := 55) C dX6_digest_52 (by decide) rfl (fun c_52 => ?_) (fun c_52 => ?_)
      · skip
        have hN_dc := nI_gt_eq h_dc (by omega) c_52
        subst hN_dc
        refine g_iinc3 (q := 79) (1) C dX6_digest_76 (by decide) (by first | rfl | exact hNw_rf _) rfl ?_
        refine g_goto (t := 38) C dX6_digest_79 (by decide) ?_
        rw [nI_1]
        refine ih_db hlt_db _ _ ?_
        rw [hIt_s, ← e_db]
        exact e_dc
      · skip
        have hlt_dc := nI_ngt_lt h_dc (by omega) c_52
        refine g_lload_n (q := 56) C dX6_digest_55 rfl rfl ?_
        refine g_ldc2 (q := 59) C dX6_digest_56 qw_944 rfl ?_
        refine g_lmul (q := 60) C dX6_digest_59 rfl ?_
        refine g_aload_n (q := 61) C dX6_digest_60 rfl (by first | exact hRef_r _ | exact hRef_o _ | exact hRef_n) rfl ?_
        refine g_iload_n (q := 62) C dX6_digest_61 rfl rfl ?_
        refine g_iload (q := 64) C dX6_digest_62 rfl rfl ?_
        refine g_callV2P (q := 67) C hy_X6_herbTold (c_X6_herbTold Γ l (nI w) hQ hI hlt_db (inR_nIt (N := 4) (by omega) (by decide))) qw_891 (by exact mM) rfl ⟨Nat.le_of_ble_eq_true rfl, Nat.le_of_ble_eq_true rfl⟩ (Nat.le_of_ble_eq_true rfl) rfl dX6_digest_64 ⟨rfl, rfl⟩ ⟨Nat.zero_le _, Nat.zero_le _⟩ rfl ?_
        refine g_i2l (q := 68) C dX6_digest_67 rfl ?_
        refine g_ladd (q := 69) C dX6_digest_68 rfl ?_
        refine g_lstore1 (q := 70) C dX6_digest_69 (by first | rfl | exact hNw_rf _) rfl ?_
        refine g_iinc4 (q := 73) (1) C dX6_digest_70 (by decide) (by first | rfl | exact hNw_rf _) rfl ?_
        refine g_goto (t := 49) C dX6_digest_73 (by decide) ?_
        rw [nI_1]
        refine ih_dc hlt_dc _  ?_
        rw [hIt_s, ← e_dc]
        rfl
  · skip
    have hlt_da := nI_ngt_lt h_da (by omega) c_14
    refine g_lload_n (q := 18) C dX6_digest_17 rfl rfl ?_
    refine g_ldc2 (q := 21) C dX6_digest_18 qw_944 rfl ?_
    refine g_lmul (q := 22) C dX6_digest_21 rfl ?_
    refine g_aload_n (q := 23) C dX6_digest_22 rfl (by first | exact hRef_r _ | exact hRef_o _ | exact hRef_n) rfl ?_
    refine g_iload_n (q := 24) C dX6_digest_23 rfl rfl ?_
    refine g_callV1P (q := 27) C hy_X6_counted (c_X6_counted Γ l (nI w) hQ hI (inR_nIt (N := 8) (by omega) (by decide))) qw_907 (by exact mM) rfl ⟨Nat.le_of_ble_eq_true rfl, Nat.le_of_ble_eq_true rfl⟩ (Nat.le_of_ble_eq_true rfl) rfl dX6_digest_24 ⟨rfl, rfl⟩ ⟨Nat.zero_le _, Nat.zero_le _⟩ rfl ?_
    refine g_i2l (q := 28) C dX6_digest_27 rfl ?_
    refine g_ladd (q := 29) C dX6_digest_28 rfl ?_
    refine g_lstore1 (q := 30) C dX6_digest_29 (by first | rfl | exact hNw_rf _) rfl ?_
    refine g_iinc3 (q := 33) (1) C dX6_digest_30 (by decide) (by first | rfl | exact hNw_rf _) rfl ?_
    refine g_goto (t := 11) C dX6_digest_33 (by decide) ?_
    rw [nI_1]
    refine ih_da hlt_da _ _ ?_
    rw [hIt_s, ← e_da]
    rfl
