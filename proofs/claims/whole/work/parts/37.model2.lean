set_option maxRecDepth 100000 in
set_option maxHeartbeats 4000000 in
theorem c_X6_no (Γ : hGam) (l : Launch) {M : hM} {m : Nat} {th : Int32} {S : hS} {s ah od : Nat} {ad : Nat → Nat} {G : Nat → Nat → Int32} {d1 d2 : Int32} (c : Int32) (hQ : mdQ Γ M m th S s ah od ad G d1 d2) (hI : sInv S)  : hMet Γ l yX6_no cX6_no 2 (some .int) rm_X6_no [.ref m, .int c] M (hpI (fun a M1 => a = 0 ∧ mdQ Γ M1 m c S s ah od ad G d1 d2 ∧ hKm M M1)) := by
  have hQc := hQ
  obtain ⟨mM, mA, mS, mAh, mOd, mNe, mH, ⟨mO, mO0⟩, mV⟩ := hQc
  have hn6 := hI.1
  have ho6 := hI.2.1
  have R := mV.rel hI.lt hI.1
  refine hMet_of (by decide +kernel) (Nat.le_of_ble_eq_true rfl) (hCat_cons rfl (hCat_cons rfl hCat_nil)) (fun k9 C => ?_)
  show hG _ _ _ _ _ _ _ _ [some (.ref m), some (.int c)] _
  refine g_aload_n (q := 1) C dX6_no_0 rfl (by first | exact hRef_r _ | exact hRef_o _ | exact hRef_n) rfl ?_
  refine g_iload_n (q := 2) C dX6_no_1 rfl rfl ?_
  refine g_put (q := 5) C hcl_X6 0 (by decide) qw_709 rfl rfl rfl rfl dX6_no_2 (by exact mM) (Nat.le_of_ble_eq_true rfl) rfl ?_
  (try rw [hU_2])
  refine g_iconst (q := 6) (0) C dX6_no_5 (by decide) rfl ?_
  exact g_iret C dX6_no_6 (⟨rfl, hQ.own c⟩) (Nat.zero_le _) (Nat.zero_le _)
set_option maxRecDepth 100000 in
set_option maxHeartbeats 4000000 in
theorem c_X6_thrown (Γ : hGam) (l : Launch) {M : hM} {m : Nat} {th : Int32} {S : hS} {s ah od : Nat} {ad : Nat → Nat} {G : Nat → Nat → Int32} {d1 d2 : Int32}  (hQ : mdQ Γ M m th S s ah od ad G d1 d2) (hI : sInv S)  : hMet Γ l yX6_thrown cX6_thrown 1 (some .int) rm_X6_thrown [.ref m] M (hpP M th) := by
  have hQc := hQ
  obtain ⟨mM, mA, mS, mAh, mOd, mNe, mH, ⟨mO, mO0⟩, mV⟩ := hQc
  have hn6 := hI.1
  have ho6 := hI.2.1
  have R := mV.rel hI.lt hI.1
  refine hMet_of (by decide +kernel) (Nat.le_of_ble_eq_true rfl) (hCat_cons rfl hCat_nil) (fun k9 C => ?_)
  show hG _ _ _ _ _ _ _ _ [some (.ref m)] _
  refine g_aload_n (q := 1) C dX6_thrown_0 rfl (by first | exact hRef_r _ | exact hRef_o _ | exact hRef_n) rfl ?_
  refine g_get (q := 4) C hcl_X6 0 (by decide) qw_709 rfl dX6_thrown_1 (by exact mM) rfl rfl ?_
  exact g_iret C dX6_thrown_4 (⟨rfl, rfl⟩) (Nat.zero_le _) (Nat.zero_le _)
set_option maxRecDepth 100000 in
set_option maxHeartbeats 4000000 in
theorem c_X6_take (Γ : hGam) (l : Launch) {M : hM} {m : Nat} {th : Int32} {S : hS} (p q : Int32) (hP : mdP Γ M m th S) (hI : sInv S) : hMet Γ l yX6_take cX6_take 4 (some .int) rm_X6_take [.ref m, .int p, .int q] M (hpI (fun a M1 => mdP Γ M1 m (nI (sTake S p q).1) (sTake S p q).2.2 ∧ ((sTake S p q).1 = 0 → a = (sTake S p q).2.1) ∧ hKm M M1)) := by
  obtain ⟨s, ah, od, ad, G, d1, d2, hQ0⟩ := hP
  refine hMet_of (by decide +kernel) (Nat.le_of_ble_eq_true rfl) (hCat_cons rfl (hCat_cons rfl (hCat_cons rfl hCat_nil))) (fun k9 C => ?_)
  show hG _ _ _ _ _ _ _ _ [some (.ref m), some (.int p), some (.int q), none] _
  refine g_aload_n (q := 1) C dX6_take_0 rfl (by first | exact hRef_r _ | exact hRef_o _ | exact hRef_n) rfl ?_
  refine g_iconst (q := 2) (0) C dX6_take_1 (by decide) rfl ?_
  refine g_put (q := 5) C hcl_X6 0 (by decide) qw_709 rfl rfl rfl rfl dX6_take_2 (by exact hQ0.1) (Nat.le_of_ble_eq_true rfl) rfl ?_
  (try rw [hU_2])
  obtain ⟨hQ, hK0⟩ := hQ0.own 0
  obtain ⟨M0, hM0⟩ : ∃ Mz, Mz = hU M m (oModel 0 (sWin S) (nI (sN S)) (some (ad 15)) (some (ad 16)) (nI (sO S)) (some (ad 17)) (some (ad 18)) (some (ad 19)) (some (ad 20)) (givn S) (some s) (some ah) (some od)) := ⟨_, rfl⟩
  refine g_eqw (M1 := M0) hM0.symm ?_
  rw [← hM0] at hQ hK0
  have hQc := hQ
  obtain ⟨mM, mA, mS, mAh, mOd, mNe, mH, ⟨mO, mO0⟩, mV⟩ := hQc
  have hn6 := hI.1
  have ho6 := hI.2.1
  have R := mV.rel hI.lt hI.1
  refine g_iload_n (q := 6) C dX6_take_5 rfl rfl ?_
  refine g_iload_n (q := 7) C dX6_take_6 rfl rfl ?_
  refine g_callS2P (q := 10) C hy_X6_isHook (c_X6_isHook Γ l p q) qw_771 ⟨Nat.le_of_ble_eq_true rfl, Nat.le_of_ble_eq_true rfl⟩ (Nat.le_of_ble_eq_true rfl) rfl dX6_take_7 ⟨rfl, rfl⟩ ⟨Nat.zero_le _, Nat.zero_le _⟩ rfl ?_
  refine g_ifB_ne (t := 19) (q := 13) C dX6_take_10 (by decide) rfl (fun c_10 => ?_) (fun c_10 => ?_)
  · skip
    have f_10 : isHk p q = true := c_10
    obtain ⟨a, b, ha, hb, rfl, rfl, hix⟩ := isHk_nI f_10
    have hi : a * 8 + b < 40 := by omega
    refine g_bipush (q := 21) (8) C dX6_take_19 (by decide) rfl ?_
    refine g_iload_n (q := 22) C dX6_take_21 rfl rfl ?_
    refine g_imul (q := 23) C dX6_take_22 rfl ?_
    refine g_iload_n (q := 24) C dX6_take_23 rfl rfl ?_
    refine g_iadd (q := 25) C dX6_take_24 rfl ?_
    rw [ix_md]
    refine g_istore3 (q := 26) C dX6_take_25 (by first | rfl | exact hNw_rf _) rfl ?_
    refine g_aload_n (q := 27) C dX6_take_26 rfl (by first | exact hRef_r _ | exact hRef_o _ | exact hRef_n) rfl ?_
    refine g_get (q := 30) C hcl_X6 11 (by decide) qw_720 rfl dX6_take_27 (by first | exact mM | exact mS) rfl rfl ?_
    refine g_iload_n (q := 31) C dX6_take_30 rfl rfl ?_
    refine g_callV1P (q := 34) C hy_X5_hangs (c_X5_hangs Γ l (a * 8 + b) mA mS (by decide) hi) qw_778 (by exact mS) rfl ⟨Nat.le_of_ble_eq_true rfl, Nat.le_of_ble_eq_true rfl⟩ (Nat.le_of_ble_eq_true rfl) rfl dX6_take_31 ⟨rfl, rfl⟩ ⟨Nat.zero_le _, Nat.zero_le _⟩ rfl ?_
    refine g_ifB_ne (t := 43) (q := 37) C dX6_take_34 (by decide) rfl (fun c_34 => ?_) (fun c_34 => ?_)
    · skip
      have f_34 : bTak (sB S (a * 8 + b)) = true := (R.tk hi).symm.trans c_34
      refine g_aload_n (q := 44) C dX6_take_43 rfl (by first | exact hRef_r _ | exact hRef_o _ | exact hRef_n) rfl ?_
      refine g_get (q := 47) C hcl_X6 11 (by decide) qw_720 rfl dX6_take_44 (by first | exact mM | exact mS) rfl rfl ?_
      refine g_getN (q := 50) C hcl_X5 1 (by decide) qw_686 rfl dX6_take_47 (by first | exact mM | exact mS) rfl rfl ?_
      refine g_iload_n (q := 51) C dX6_take_50 rfl rfl ?_
      refine g_iconst (q := 52) (-1) C dX6_take_51 (by decide) rfl ?_
      refine g_iast (q := 53) C (a * 8 + b) rfl hi (by decide) dX6_take_52 (mA.at0 (c := 0) (by decide)) rfl ?_
      obtain ⟨G1, hA1, hk1, -, hKm1, hG1⟩ := mA.sti (c := 0) (k := (a * 8 + b)) (by decide) (-1)
      have hs1 := hk1 _ _ _ mS
      refine g_aload_n (q := 54) C dX6_take_53 rfl (by first | exact hRef_r _ | exact hRef_o _ | exact hRef_n) rfl ?_
      refine g_get (q := 57) C hcl_X6 11 (by decide) qw_720 rfl dX6_take_54 (by exact hk1 _ _ _ mM) rfl rfl ?_
      refine g_iload_n (q := 58) C dX6_take_57 rfl rfl ?_
      refine g_callV1P (q := 61) C hy_X5_wetness (c_X5_wetness Γ l (a * 8 + b) hA1 hs1 (by decide) hi) qw_795 (by exact hs1) rfl ⟨Nat.le_of_ble_eq_true rfl, Nat.le_of_ble_eq_true rfl⟩ (Nat.le_of_ble_eq_true rfl) rfl dX6_take_58 ⟨rfl, rfl⟩ ⟨Nat.zero_le _, Nat.zero_le _⟩ rfl ?_
      exact g_iret C dX6_take_61 (by have e_ : sTake S (nI a) (nI b) = (0, bWet (sB S (a * 8 + b)), setB S (fUp (sB S) (a * 8 + b) emp)) := (by simp [sTake, f_10, f_34, hix]); rw [e_]; exact ⟨hQ.bun hA1 hk1 (fun c i hc => by rw [hG1, if_neg (fun q => by omega)]) (mV.clr hG1), fun _ => (show (G1 1 (a * 8 + b) + G1 2 (a * 8 + b)) / 2 = _ by rw [hG1, hG1, if_neg (fun q => by omega), if_neg (fun q => by omega)]; exact R.wt hi f_34), hK0.tr hKm1⟩) (Nat.zero_le _) (Nat.zero_le _)
    · skip
      have f_34 : bTak (sB S (a * 8 + b)) = false := (R.tk hi).symm.trans c_34
      refine g_aload_n (q := 38) C dX6_take_37 rfl (by first | exact hRef_r _ | exact hRef_o _ | exact hRef_n) rfl ?_
      refine g_iconst (q := 39) (2) C dX6_take_38 (by decide) rfl ?_
      refine g_callV1I (q := 42) C hy_X6_no (c_X6_no Γ l 2 hQ hI) qw_763 (by exact mM) rfl ⟨Nat.le_of_ble_eq_true rfl, Nat.le_of_ble_eq_true rfl⟩ (Nat.le_of_ble_eq_true rfl) rfl dX6_take_39 ⟨rfl, rfl⟩ ⟨Nat.zero_le _, Nat.zero_le _⟩ rfl (fun x_39 M_39 p_39 => ?_)
      exact g_iret C dX6_take_42 (by have e_ : sTake S (nI a) (nI b) = (2, 0, S) := (by simp [sTake, f_10, f_34, hix]); rw [e_]; exact ⟨p_39.2.1.P, fun q => absurd (show (2 : Nat) = 0 from q) (by decide), hK0.tr p_39.2.2⟩) (Nat.zero_le _) (Nat.zero_le _)
  · skip
    have f_10 : isHk p q = false := c_10
    refine g_aload_n (q := 14) C dX6_take_13 rfl (by first | exact hRef_r _ | exact hRef_o _ | exact hRef_n) rfl ?_
    refine g_iconst (q := 15) (1) C dX6_take_14 (by decide) rfl ?_
    refine g_callV1I (q := 18) C hy_X6_no (c_X6_no Γ l 1 hQ hI) qw_763 (by exact mM) rfl ⟨Nat.le_of_ble_eq_true rfl, Nat.le_of_ble_eq_true rfl⟩ (Nat.le_of_ble_eq_true rfl) rfl dX6_take_15 ⟨rfl, rfl⟩ ⟨Nat.zero_le _, Nat.zero_le _⟩ rfl (fun x_15 M_15 p_15 => ?_)
    exact g_iret C dX6_take_18 (by have e_ : sTake S p q = (1, 0, S) := (by simp [sTake, f_10]); rw [e_]; exact ⟨p_15.2.1.P, fun q => absurd (show (1 : Nat) = 0 from q) (by decide), hK0.tr p_15.2.2⟩) (Nat.zero_le _) (Nat.zero_le _)
set_option maxRecDepth 100000 in
set_option maxHeartbeats 4000000 in
theorem c_X6_hang (Γ : hGam) (l : Launch) {M : hM} {m : Nat} {th : Int32} {S : hS} (p q h w : Int32) (hP : mdP Γ M m th S) (hI : sInv S) : hMet Γ l yX6_hang cX6_hang 6 (some .int) rm_X6_hang [.ref m, .int p, .int q, .int h, .int w] M (hpI (fun a M1 => mdP Γ M1 m (nI (sHang S p q h w).1) (sHang S p q h w).2.2 ∧ ((sHang S p q h w).1 = 0 → a = (sHang S p q h w).2.1) ∧ hKm M M1)) := by
  obtain ⟨s, ah, od, ad, G, d1, d2, hQ0⟩ := hP
  refine hMet_of (by decide +kernel) (Nat.le_of_ble_eq_true rfl) (hCat_cons rfl (hCat_cons rfl (hCat_cons rfl (hCat_cons rfl (hCat_cons rfl hCat_nil))))) (fun k9 C => ?_)
  show hG _ _ _ _ _ _ _ _ [some (.ref m), some (.int p), some (.int q), some (.int h), some (.int w), none] _
  refine g_aload_n (q := 1) C dX6_hang_0 rfl (by first | exact hRef_r _ | exact hRef_o _ | exact hRef_n) rfl ?_
  refine g_iconst (q := 2) (0) C dX6_hang_1 (by decide) rfl ?_
  refine g_put (q := 5) C hcl_X6 0 (by decide) qw_709 rfl rfl rfl rfl dX6_hang_2 (by exact hQ0.1) (Nat.le_of_ble_eq_true rfl) rfl ?_
  (try rw [hU_2])
  obtain ⟨hQ, hK0⟩ := hQ0.own 0
  obtain ⟨M0, hM0⟩ : ∃ Mz, Mz = hU M m (oModel 0 (sWin S) (nI (sN S)) (some (ad 15)) (some (ad 16)) (nI (sO S)) (some (ad 17)) (some (ad 18)) (some (ad 19)) (some (ad 20)) (givn S) (some s) (some ah) (some od)) := ⟨_, rfl⟩
  refine g_eqw (M1 := M0) hM0.symm ?_
  rw [← hM0] at hQ hK0
  have hQc := hQ
  obtain ⟨mM, mA, mS, mAh, mOd, mNe, mH, ⟨mO, mO0⟩, mV⟩ := hQc
  have hn6 := hI.1
  have ho6 := hI.2.1
  have R := mV.rel hI.lt hI.1
  refine g_iload_n (q := 6) C dX6_hang_5 rfl rfl ?_
  refine g_iload_n (q := 7) C dX6_hang_6 rfl rfl ?_
  refine g_callS2P (q := 10) C hy_X6_isHook (c_X6_isHook Γ l p q) qw_771 ⟨Nat.le_of_ble_eq_true rfl, Nat.le_of_ble_eq_true rfl⟩ (Nat.le_of_ble_eq_true rfl) rfl dX6_hang_7 ⟨rfl, rfl⟩ ⟨Nat.zero_le _, Nat.zero_le _⟩ rfl ?_
  refine g_ifB_eq (t := 21) (q := 13) C dX6_hang_10 (by decide) rfl (fun c_10 => ?_) (fun c_10 => ?_)
  · skip
    have f_10 : isHk p q = false := c_10
    refine g_aload_n (q := 22) C dX6_hang_21 rfl (by first | exact hRef_r _ | exact hRef_o _ | exact hRef_n) rfl ?_
    refine g_iconst (q := 23) (1) C dX6_hang_22 (by decide) rfl ?_
    refine g_callV1I (q := 26) C hy_X6_no (c_X6_no Γ l 1 hQ hI) qw_763 (by exact mM) rfl ⟨Nat.le_of_ble_eq_true rfl, Nat.le_of_ble_eq_true rfl⟩ (Nat.le_of_ble_eq_true rfl) rfl dX6_hang_23 ⟨rfl, rfl⟩ ⟨Nat.zero_le _, Nat.zero_le _⟩ rfl (fun x_23 M_23 p_23 => ?_)
    exact g_iret C dX6_hang_26 (by have e_ : sHang S p q h w = (1, 0, S) := (by simp [sHang, f_10]); rw [e_]; exact ⟨p_23.2.1.P, fun q => absurd (show (1 : Nat) = 0 from q) (by decide), hK0.tr p_23.2.2⟩) (Nat.zero_le _) (Nat.zero_le _)
  · skip
    have f_10 : isHk p q = true := c_10
    refine g_aload_n (q := 14) C dX6_hang_13 rfl (by first | exact hRef_r _ | exact hRef_o _ | exact hRef_n) rfl ?_
    refine g_iload_n (q := 15) C dX6_hang_14 rfl rfl ?_
    refine g_callV1P (q := 18) C hy_X6_isHerb (c_X6_isHerb Γ l h hQ hI) qw_774 (by exact mM) rfl ⟨Nat.le_of_ble_eq_true rfl, Nat.le_of_ble_eq_true rfl⟩ (Nat.le_of_ble_eq_true rfl) rfl dX6_hang_15 ⟨rfl, rfl⟩ ⟨Nat.zero_le _, Nat.zero_le _⟩ rfl ?_
    refine g_ifB_ne (t := 27) (q := 21) C dX6_hang_18 (by decide) rfl (fun c_18 => ?_) (fun c_18 => ?_)
    · skip
      have f_18 : isH S h = true := c_18
      refine g_iload (q := 29) C dX6_hang_27 rfl rfl ?_
      refine g_iconst (q := 30) (0) C dX6_hang_29 (by decide) rfl ?_
      refine g_bipush (q := 32) (100) C dX6_hang_30 (by decide) rfl ?_
      refine g_callS3P (q := 35) C hy_X6_isIn (c_X6_isIn Γ l w 0 100) qw_760 ⟨Nat.le_of_ble_eq_true rfl, Nat.le_of_ble_eq_true rfl⟩ (Nat.le_of_ble_eq_true rfl) rfl dX6_hang_32 ⟨rfl, rfl⟩ ⟨Nat.zero_le _, Nat.zero_le _⟩ rfl ?_
      refine g_ifB_ne (t := 44) (q := 38) C dX6_hang_35 (by decide) rfl (fun c_35 => ?_) (fun c_35 => ?_)
      · skip
        have f_35 : inR 0 100 w = true := c_35
        obtain ⟨a, b, ha, hb, rfl, rfl, hix⟩ := isHk_nI f_10
        have hi : a * 8 + b < 40 := by omega
        obtain ⟨hj0, hjj⟩ := isH_ex f_18
        obtain ⟨hj, hjd⟩ : ∃ j, j = hNo h := ⟨_, rfl⟩
        rw [← hjd] at hj0 hjj
        subst hjj
        refine g_bipush (q := 46) (8) C dX6_hang_44 (by decide) rfl ?_
        refine g_iload_n (q := 47) C dX6_hang_46 rfl rfl ?_
        refine g_imul (q := 48) C dX6_hang_47 rfl ?_
        refine g_iload_n (q := 49) C dX6_hang_48 rfl rfl ?_
        refine g_iadd (q := 50) C dX6_hang_49 rfl ?_
        rw [ix_md]
        refine g_istore5 (q := 52) C dX6_hang_50 (by first | rfl | exact hNw_rf _) rfl ?_
        refine g_aload_n (q := 53) C dX6_hang_52 rfl (by first | exact hRef_r _ | exact hRef_o _ | exact hRef_n) rfl ?_
        refine g_get (q := 56) C hcl_X6 11 (by decide) qw_720 rfl dX6_hang_53 (by first | exact mM | exact mS) rfl rfl ?_
        refine g_iload (q := 58) C dX6_hang_56 rfl rfl ?_
        refine g_callV1P (q := 61) C hy_X5_hangs (c_X5_hangs Γ l (a * 8 + b) mA mS (by decide) hi) qw_778 (by exact mS) rfl ⟨Nat.le_of_ble_eq_true rfl, Nat.le_of_ble_eq_true rfl⟩ (Nat.le_of_ble_eq_true rfl) rfl dX6_hang_58 ⟨rfl, rfl⟩ ⟨Nat.zero_le _, Nat.zero_le _⟩ rfl ?_
        refine g_ifB_eq (t := 70) (q := 64) C dX6_hang_61 (by decide) rfl (fun c_61 => ?_) (fun c_61 => ?_)
        · skip
          have f_61 : bTak (sB S (a * 8 + b)) = false := (R.tk hi).symm.trans c_61
          refine g_aload_n (q := 71) C dX6_hang_70 rfl (by first | exact hRef_r _ | exact hRef_o _ | exact hRef_n) rfl ?_
          refine g_get (q := 74) C hcl_X6 11 (by decide) qw_720 rfl dX6_hang_71 (by first | exact mM | exact mS) rfl rfl ?_
          refine g_getN (q := 77) C hcl_X5 1 (by decide) qw_686 rfl dX6_hang_74 (by first | exact mM | exact mS) rfl rfl ?_
          refine g_iload (q := 79) C dX6_hang_77 rfl rfl ?_
          refine g_iload_n (q := 80) C dX6_hang_79 rfl rfl ?_
          refine g_iast (q := 81) C (a * 8 + b) rfl hi (by decide) dX6_hang_80 (mA.at0 (c := 0) (by decide)) rfl ?_
          obtain ⟨G1, hA1, hk1, -, hKm1, hG1⟩ := mA.sti (c := 0) (k := (a * 8 + b)) (by decide) (nI hj)
          have hs1 := hk1 _ _ _ mS
          have hm1 := hk1 _ _ _ mM
          refine g_aload_n (q := 82) C dX6_hang_81 rfl (by first | exact hRef_r _ | exact hRef_o _ | exact hRef_n) rfl ?_
          refine g_get (q := 85) C hcl_X6 11 (by decide) qw_720 rfl dX6_hang_82 (by exact hm1) rfl rfl ?_
          refine g_getN (q := 88) C hcl_X5 2 (by decide) qw_688 rfl dX6_hang_85 (by exact hs1) rfl rfl ?_
          refine g_iload (q := 90) C dX6_hang_88 rfl rfl ?_
          refine g_iload (q := 92) C dX6_hang_90 rfl rfl ?_
          refine g_iast (q := 93) C (a * 8 + b) rfl hi (by decide) dX6_hang_92 (hA1.at0 (c := 1) (by decide)) rfl ?_
          obtain ⟨G2, hA2, hk2, -, hKm2, hG2⟩ := hA1.sti (c := 1) (k := (a * 8 + b)) (by decide) w
          have hs2 := hk2 _ _ _ hs1
          have hm2 := hk2 _ _ _ hm1
          refine g_aload_n (q := 94) C dX6_hang_93 rfl (by first | exact hRef_r _ | exact hRef_o _ | exact hRef_n) rfl ?_
          refine g_get (q := 97) C hcl_X6 11 (by decide) qw_720 rfl dX6_hang_94 (by exact hm2) rfl rfl ?_
          refine g_getN (q := 100) C hcl_X5 3 (by decide) qw_690 rfl dX6_hang_97 (by exact hs2) rfl rfl ?_
          refine g_iload (q := 102) C dX6_hang_100 rfl rfl ?_
          refine g_iload (q := 104) C dX6_hang_102 rfl rfl ?_
          refine g_iast (q := 105) C (a * 8 + b) rfl hi (by decide) dX6_hang_104 (hA2.at0 (c := 2) (by decide)) rfl ?_
          obtain ⟨G3, hA3, hk3, -, hKm3, hG3⟩ := hA2.sti (c := 2) (k := (a * 8 + b)) (by decide) w
          have hs3 := hk3 _ _ _ hs2
          have hm3 := hk3 _ _ _ hm2
          refine g_aload_n (q := 106) C dX6_hang_105 rfl (by first | exact hRef_r _ | exact hRef_o _ | exact hRef_n) rfl ?_
          refine g_get (q := 109) C hcl_X6 11 (by decide) qw_720 rfl dX6_hang_106 (by exact hm3) rfl rfl ?_
          refine g_getN (q := 112) C hcl_X5 4 (by decide) qw_692 rfl dX6_hang_109 (by exact hs3) rfl rfl ?_
          refine g_iload (q := 114) C dX6_hang_112 rfl rfl ?_
          refine g_iconst (q := 115) (0) C dX6_hang_114 (by decide) rfl ?_
          refine g_iast (q := 116) C (a * 8 + b) rfl hi (by decide) dX6_hang_115 (hA3.at0 (c := 3) (by decide)) rfl ?_
          obtain ⟨G4, hA4, hk4, -, hKm4, hG4⟩ := hA3.sti (c := 3) (k := (a * 8 + b)) (by decide) 0
          have hs4 := hk4 _ _ _ hs3
          have hm4 := hk4 _ _ _ hm3
          refine g_aload_n (q := 117) C dX6_hang_116 rfl (by first | exact hRef_r _ | exact hRef_o _ | exact hRef_n) rfl ?_
          refine g_get (q := 120) C hcl_X6 11 (by decide) qw_720 rfl dX6_hang_117 (by exact hm4) rfl rfl ?_
          refine g_getN (q := 123) C hcl_X5 5 (by decide) qw_694 rfl dX6_hang_120 (by exact hs4) rfl rfl ?_
          refine g_iload (q := 125) C dX6_hang_123 rfl rfl ?_
          refine g_iconst (q := 126) (0) C dX6_hang_125 (by decide) rfl ?_
          refine g_iast (q := 127) C (a * 8 + b) rfl hi (by decide) dX6_hang_126 (hA4.at0 (c := 4) (by decide)) rfl ?_
          obtain ⟨G5, hA5, hk5, -, hKm5, hG5⟩ := hA4.sti (c := 4) (k := (a * 8 + b)) (by decide) 0
          have hs5 := hk5 _ _ _ hs4
          have hm5 := hk5 _ _ _ hm4
          refine g_aload_n (q := 128) C dX6_hang_127 rfl (by first | exact hRef_r _ | exact hRef_o _ | exact hRef_n) rfl ?_
          refine g_get (q := 131) C hcl_X6 11 (by decide) qw_720 rfl dX6_hang_128 (by exact hm5) rfl rfl ?_
          refine g_iconst (q := 132) (2) C dX6_hang_131 (by decide) rfl ?_
          refine g_callV1P (q := 135) C hy_X5_sum (c_X5_sum Γ l 2 hA5 hs5 (by decide)) qw_782 (by exact hs5) rfl ⟨Nat.le_of_ble_eq_true rfl, Nat.le_of_ble_eq_true rfl⟩ (Nat.le_of_ble_eq_true rfl) rfl dX6_hang_132 ⟨rfl, rfl⟩ ⟨Nat.zero_le _, Nat.zero_le _⟩ rfl ?_
          exact g_iret C dX6_hang_135 (by have e_ : sHang S (nI a) (nI b) (nI hj) w = (0, hIt (fCnt (fUp (sB S) (a * 8 + b) (some hj, w, w, 0, 0))) 0 40, setB S (fUp (sB S) (a * 8 + b) (some hj, w, w, 0, 0))) := (by simp [sHang, f_10, f_18, f_35, f_61, hix, ← hjd]); rw [e_]; have hV5 : stV G5 0 (fUp (sB S) (a * 8 + b) (some hj, w, w, 0, 0)) := mV.set (fun c i hne hc5 => by simp only [hG5, hG4, hG3, hG2, hG1]; rw [if_neg (fun q => hne q.2), if_neg (fun q => hne q.2), if_neg (fun q => hne q.2), if_neg (fun q => hne q.2), if_neg (fun q => hne q.2)]) (by simp [hG5, hG4, hG3, hG2, hG1]; rfl) (by simp [hG5, hG4, hG3, hG2, hG1]); exact ⟨hQ.bun hA5 (fun y w r hy => hk5 _ _ _ (hk4 _ _ _ (hk3 _ _ _ (hk2 _ _ _ (hk1 _ _ _ hy))))) (fun c i hc => by simp only [hG5, hG4, hG3, hG2, hG1]; rw [if_neg (fun q => by omega), if_neg (fun q => by omega), if_neg (fun q => by omega), if_neg (fun q => by omega), if_neg (fun q => by omega)]) hV5, fun _ => fSm_2.trans (hV5.rel (n := sN S) (fun i hi9 j hj9 => by by_cases e9 : i = (a * 8 + b); (subst e9; rw [fUp_s] at hj9; cases hj9; exact hj0); (rw [fUp_n e9] at hj9; exact hI.lt i hi9 j hj9)) hn6).cnt, ((((hK0.tr hKm1).tr hKm2).tr hKm3).tr hKm4).tr hKm5⟩) (Nat.zero_le _) (Nat.zero_le _)
        · skip
          have f_61 : bTak (sB S (a * 8 + b)) = true := (R.tk hi).symm.trans c_61
          refine g_aload_n (q := 65) C dX6_hang_64 rfl (by first | exact hRef_r _ | exact hRef_o _ | exact hRef_n) rfl ?_
          refine g_iconst (q := 66) (3) C dX6_hang_65 (by decide) rfl ?_
          refine g_callV1I (q := 69) C hy_X6_no (c_X6_no Γ l 3 hQ hI) qw_763 (by exact mM) rfl ⟨Nat.le_of_ble_eq_true rfl, Nat.le_of_ble_eq_true rfl⟩ (Nat.le_of_ble_eq_true rfl) rfl dX6_hang_66 ⟨rfl, rfl⟩ ⟨Nat.zero_le _, Nat.zero_le _⟩ rfl (fun x_66 M_66 p_66 => ?_)
          exact g_iret C dX6_hang_69 (by have e_ : sHang S (nI a) (nI b) (nI hj) w = (3, 0, S) := (by simp [sHang, f_10, f_18, f_35, f_61, hix]); rw [e_]; exact ⟨p_66.2.1.P, fun q => absurd (show (3 : Nat) = 0 from q) (by decide), hK0.tr p_66.2.2⟩) (Nat.zero_le _) (Nat.zero_le _)
      · skip
        have f_35 : inR 0 100 w = false := c_35
        refine g_aload_n (q := 39) C dX6_hang_38 rfl (by first | exact hRef_r _ | exact hRef_o _ | exact hRef_n) rfl ?_
        refine g_iconst (q := 40) (2) C dX6_hang_39 (by decide) rfl ?_
        refine g_callV1I (q := 43) C hy_X6_no (c_X6_no Γ l 2 hQ hI) qw_763 (by exact mM) rfl ⟨Nat.le_of_ble_eq_true rfl, Nat.le_of_ble_eq_true rfl⟩ (Nat.le_of_ble_eq_true rfl) rfl dX6_hang_40 ⟨rfl, rfl⟩ ⟨Nat.zero_le _, Nat.zero_le _⟩ rfl (fun x_40 M_40 p_40 => ?_)
        exact g_iret C dX6_hang_43 (by have e_ : sHang S p q h w = (2, 0, S) := (by simp [sHang, f_10, f_18, f_35]); rw [e_]; exact ⟨p_40.2.1.P, fun q => absurd (show (2 : Nat) = 0 from q) (by decide), hK0.tr p_40.2.2⟩) (Nat.zero_le _) (Nat.zero_le _)
    · skip
      have f_18 : isH S h = false := c_18
      refine g_aload_n (q := 22) C dX6_hang_21 rfl (by first | exact hRef_r _ | exact hRef_o _ | exact hRef_n) rfl ?_
      refine g_iconst (q := 23) (1) C dX6_hang_22 (by decide) rfl ?_
      refine g_callV1I (q := 26) C hy_X6_no (c_X6_no Γ l 1 hQ hI) qw_763 (by exact mM) rfl ⟨Nat.le_of_ble_eq_true rfl, Nat.le_of_ble_eq_true rfl⟩ (Nat.le_of_ble_eq_true rfl) rfl dX6_hang_23 ⟨rfl, rfl⟩ ⟨Nat.zero_le _, Nat.zero_le _⟩ rfl (fun x_23 M_23 p_23 => ?_)
      exact g_iret C dX6_hang_26 (by have e_ : sHang S p q h w = (1, 0, S) := (by simp [sHang, f_10, f_18]); rw [e_]; exact ⟨p_23.2.1.P, fun q => absurd (show (1 : Nat) = 0 from q) (by decide), hK0.tr p_23.2.2⟩) (Nat.zero_le _) (Nat.zero_le _)
set_option maxRecDepth 100000 in
set_option maxHeartbeats 4000000 in
theorem c_X6_move (Γ : hGam) (l : Launch) {M : hM} {m : Nat} {th : Int32} {S : hS} (p q p2 q2 : Int32) (hP : mdP Γ M m th S) (hI : sInv S) : hMet Γ l yX6_move cX6_move 7 (some .int) rm_X6_move [.ref m, .int p, .int q, .int p2, .int q2] M (hpI (fun a M1 => mdP Γ M1 m (nI (sMove S p q p2 q2).1) (sMove S p q p2 q2).2.2 ∧ ((sMove S p q p2 q2).1 = 0 → a = (sMove S p q p2 q2).2.1) ∧ hKm M M1)) := by
  obtain ⟨s, ah, od, ad, G, d1, d2, hQ0⟩ := hP
  refine hMet_of (by decide +kernel) (Nat.le_of_ble_eq_true rfl) (hCat_cons rfl (hCat_cons rfl (hCat_cons rfl (hCat_cons rfl (hCat_cons rfl hCat_nil))))) (fun k9 C => ?_)
  show hG _ _ _ _ _ _ _ _ [some (.ref m), some (.int p), some (.int q), some (.int p2), some (.int q2), none, none] _
  refine g_aload_n (q := 1) C dX6_move_0 rfl (by first | exact hRef_r _ | exact hRef_o _ | exact hRef_n) rfl ?_
  refine g_iconst (q := 2) (0) C dX6_move_1 (by decide) rfl ?_
  refine g_put (q := 5) C hcl_X6 0 (by decide) qw_709 rfl rfl rfl rfl dX6_move_2 (by exact hQ0.1) (Nat.le_of_ble_eq_true rfl) rfl ?_
  (try rw [hU_2])
  obtain ⟨hQ, hK0⟩ := hQ0.own 0
  obtain ⟨M0, hM0⟩ : ∃ Mz, Mz = hU M m (oModel 0 (sWin S) (nI (sN S)) (some (ad 15)) (some (ad 16)) (nI (sO S)) (some (ad 17)) (some (ad 18)) (some (ad 19)) (some (ad 20)) (givn S) (some s) (some ah) (some od)) := ⟨_, rfl⟩
  refine g_eqw (M1 := M0) hM0.symm ?_
  rw [← hM0] at hQ hK0
  have hQc := hQ
  obtain ⟨mM, mA, mS, mAh, mOd, mNe, mH, ⟨mO, mO0⟩, mV⟩ := hQc
  have hn6 := hI.1
  have ho6 := hI.2.1
  have R := mV.rel hI.lt hI.1
  refine g_iload_n (q := 6) C dX6_move_5 rfl rfl ?_
  refine g_iload_n (q := 7) C dX6_move_6 rfl rfl ?_
  refine g_callS2P (q := 10) C hy_X6_isHook (c_X6_isHook Γ l p q) qw_771 ⟨Nat.le_of_ble_eq_true rfl, Nat.le_of_ble_eq_true rfl⟩ (Nat.le_of_ble_eq_true rfl) rfl dX6_move_7 ⟨rfl, rfl⟩ ⟨Nat.zero_le _, Nat.zero_le _⟩ rfl ?_
  refine g_ifB_eq (t := 22) (q := 13) C dX6_move_10 (by decide) rfl (fun c_10 => ?_) (fun c_10 => ?_)
  · skip
    have f_10 : isHk p q = false := c_10
    refine g_aload_n (q := 23) C dX6_move_22 rfl (by first | exact hRef_r _ | exact hRef_o _ | exact hRef_n) rfl ?_
    refine g_iconst (q := 24) (1) C dX6_move_23 (by decide) rfl ?_
    refine g_callV1I (q := 27) C hy_X6_no (c_X6_no Γ l 1 hQ hI) qw_763 (by exact mM) rfl ⟨Nat.le_of_ble_eq_true rfl, Nat.le_of_ble_eq_true rfl⟩ (Nat.le_of_ble_eq_true rfl) rfl dX6_move_24 ⟨rfl, rfl⟩ ⟨Nat.zero_le _, Nat.zero_le _⟩ rfl (fun x_24 M_24 p_24 => ?_)
    exact g_iret C dX6_move_27 (by have e_ : sMove S p q p2 q2 = (1, 0, S) := (by simp [sMove, f_10]); rw [e_]; exact ⟨p_24.2.1.P, fun q => absurd (show (1 : Nat) = 0 from q) (by decide), hK0.tr p_24.2.2⟩) (Nat.zero_le _) (Nat.zero_le _)
  · skip
    have f_10 : isHk p q = true := c_10
    refine g_iload_n (q := 14) C dX6_move_13 rfl rfl ?_
    refine g_iload (q := 16) C dX6_move_14 rfl rfl ?_
    refine g_callS2P (q := 19) C hy_X6_isHook (c_X6_isHook Γ l p2 q2) qw_771 ⟨Nat.le_of_ble_eq_true rfl, Nat.le_of_ble_eq_true rfl⟩ (Nat.le_of_ble_eq_true rfl) rfl dX6_move_16 ⟨rfl, rfl⟩ ⟨Nat.zero_le _, Nat.zero_le _⟩ rfl ?_
    refine g_ifB_ne (t := 28) (q := 22) C dX6_move_19 (by decide) rfl (fun c_19 => ?_) (fun c_19 => ?_)
    · skip
      have f_19 : isHk p2 q2 = true := c_19
      obtain ⟨a, b, ha, hb, rfl, rfl, hix⟩ := isHk_nI f_10
      have hi : a * 8 + b < 40 := by omega
      obtain ⟨a2, b2, ha2, hb2, rfl, rfl, hix2⟩ := isHk_nI f_19
      have hi2 : a2 * 8 + b2 < 40 := by omega
      refine g_bipush (q := 30) (8) C dX6_move_28 (by decide) rfl ?_
      refine g_iload_n (q := 31) C dX6_move_30 rfl rfl ?_
      refine g_imul (q := 32) C dX6_move_31 rfl ?_
      refine g_iload_n (q := 33) C dX6_move_32 rfl rfl ?_
      refine g_iadd (q := 34) C dX6_move_33 rfl ?_
      rw [ix_md]
      refine g_istore5 (q := 36) C dX6_move_34 (by first | rfl | exact hNw_rf _) rfl ?_
      refine g_bipush (q := 38) (8) C dX6_move_36 (by decide) rfl ?_
      refine g_iload_n (q := 39) C dX6_move_38 rfl rfl ?_
      refine g_imul (q := 40) C dX6_move_39 rfl ?_
      refine g_iload (q := 42) C dX6_move_40 rfl rfl ?_
      refine g_iadd (q := 43) C dX6_move_42 rfl ?_
      rw [ix_md]
      refine g_istore6 (q := 45) C dX6_move_43 (by first | rfl | exact hNw_rf _) rfl ?_
      refine g_aload_n (q := 46) C dX6_move_45 rfl (by first | exact hRef_r _ | exact hRef_o _ | exact hRef_n) rfl ?_
      refine g_get (q := 49) C hcl_X6 11 (by decide) qw_720 rfl dX6_move_46 (by first | exact mM | exact mS) rfl rfl ?_
      refine g_iload (q := 51) C dX6_move_49 rfl rfl ?_
      refine g_callV1P (q := 54) C hy_X5_hangs (c_X5_hangs Γ l (a * 8 + b) mA mS (by decide) hi) qw_778 (by exact mS) rfl ⟨Nat.le_of_ble_eq_true rfl, Nat.le_of_ble_eq_true rfl⟩ (Nat.le_of_ble_eq_true rfl) rfl dX6_move_51 ⟨rfl, rfl⟩ ⟨Nat.zero_le _, Nat.zero_le _⟩ rfl ?_
      refine g_ifB_eq (t := 69) (q := 57) C dX6_move_54 (by decide) rfl (fun c_54 => ?_) (fun c_54 => ?_)
      · skip
        have f_54 : bTak (sB S (a * 8 + b)) = false := (R.tk hi).symm.trans c_54
        refine g_aload_n (q := 70) C dX6_move_69 rfl (by first | exact hRef_r _ | exact hRef_o _ | exact hRef_n) rfl ?_
        refine g_iconst (q := 71) (2) C dX6_move_70 (by decide) rfl ?_
        refine g_callV1I (q := 74) C hy_X6_no (c_X6_no Γ l 2 hQ hI) qw_763 (by exact mM) rfl ⟨Nat.le_of_ble_eq_true rfl, Nat.le_of_ble_eq_true rfl⟩ (Nat.le_of_ble_eq_true rfl) rfl dX6_move_71 ⟨rfl, rfl⟩ ⟨Nat.zero_le _, Nat.zero_le _⟩ rfl (fun x_71 M_71 p_71 => ?_)
        exact g_iret C dX6_move_74 (by have e_ : sMove S (nI a) (nI b) (nI a2) (nI b2) = (2, 0, S) := (by simp [sMove, f_10, f_19, f_54, hix, hix2]); rw [e_]; exact ⟨p_71.2.1.P, fun q => absurd (show (2 : Nat) = 0 from q) (by decide), hK0.tr p_71.2.2⟩) (Nat.zero_le _) (Nat.zero_le _)
      · skip
        have f_54 : bTak (sB S (a * 8 + b)) = true := (R.tk hi).symm.trans c_54
        refine g_aload_n (q := 58) C dX6_move_57 rfl (by first | exact hRef_r _ | exact hRef_o _ | exact hRef_n) rfl ?_
        refine g_get (q := 61) C hcl_X6 11 (by decide) qw_720 rfl dX6_move_58 (by first | exact mM | exact mS) rfl rfl ?_
        refine g_iload (q := 63) C dX6_move_61 rfl rfl ?_
        refine g_callV1P (q := 66) C hy_X5_hangs (c_X5_hangs Γ l (a2 * 8 + b2) mA mS (by decide) hi2) qw_778 (by exact mS) rfl ⟨Nat.le_of_ble_eq_true rfl, Nat.le_of_ble_eq_true rfl⟩ (Nat.le_of_ble_eq_true rfl) rfl dX6_move_63 ⟨rfl, rfl⟩ ⟨Nat.zero_le _, Nat.zero_le _⟩ rfl ?_
        refine g_ifB_eq (t := 75) (q := 69) C dX6_move_66 (by decide) rfl (fun c_66 => ?_) (fun c_66 => ?_)
        · skip
          have f_66 : bTak (sB S (a2 * 8 + b2)) = false := (R.tk hi2).symm.trans c_66
          have hft : (a * 8 + b) ≠ (a2 * 8 + b2) := fun q => by rw [← q, f_54] at f_66; cases f_66
          refine g_aload_n (q := 76) C dX6_move_75 rfl (by first | exact hRef_r _ | exact hRef_o _ | exact hRef_n) rfl ?_
          refine g_get (q := 79) C hcl_X6 11 (by decide) qw_720 rfl dX6_move_76 (by first | exact mM | exact mS) rfl rfl ?_
          refine g_iload (q := 81) C dX6_move_79 rfl rfl ?_
          refine g_iload (q := 83) C dX6_move_81 rfl rfl ?_
          refine g_callV2V (q := 86) C hy_X5_lay (c_X5_lay Γ l mA mS (by decide) hi hi2 hft) qw_800 (by exact mS) rfl ⟨Nat.le_of_ble_eq_true rfl, Nat.le_of_ble_eq_true rfl⟩ (Nat.le_of_ble_eq_true rfl) rfl dX6_move_83 ⟨rfl, rfl⟩ ⟨Nat.zero_le _, Nat.zero_le _⟩ rfl (fun M_83 p_83 => ?_)
          obtain ⟨G1, hA1, hR1, hL1, hO1⟩ := p_83
          have hKm1 := mA.km hO1
          have hk1 := mA.kc hO1
          have hV1 := mV.lay hi hi2 hft hL1
          refine g_aload_n (q := 87) C dX6_move_86 rfl (by first | exact hRef_r _ | exact hRef_o _ | exact hRef_n) rfl ?_
          refine g_get (q := 90) C hcl_X6 11 (by decide) qw_720 rfl dX6_move_87 (by exact hk1 _ _ _ mM) rfl rfl ?_
          refine g_iload (q := 92) C dX6_move_90 rfl rfl ?_
          refine g_callV1P (q := 95) C hy_X5_neighbours (c_X5_neighbours Γ l (a2 * 8 + b2) hA1 (hk1 _ _ _ mS) (by decide) hi2) qw_804 (by exact hk1 _ _ _ mS) rfl ⟨Nat.le_of_ble_eq_true rfl, Nat.le_of_ble_eq_true rfl⟩ (Nat.le_of_ble_eq_true rfl) rfl dX6_move_92 ⟨rfl, rfl⟩ ⟨Nat.zero_le _, Nat.zero_le _⟩ rfl ?_
          exact g_iret C dX6_move_95 (by have e_ : sMove S (nI a) (nI b) (nI a2) (nI b2) = (0, nbrs (fUp (fUp (sB S) (a2 * 8 + b2) (sB S (a * 8 + b))) (a * 8 + b) emp) (a2 * 8 + b2), setB S (fUp (fUp (sB S) (a2 * 8 + b2) (sB S (a * 8 + b))) (a * 8 + b) emp)) := (by simp [sMove, f_10, f_19, f_54, f_66, hix, hix2]); rw [e_]; exact ⟨hQ.bun hA1 hk1 (fun c i hc => by rw [hR1 c (by omega)]) hV1, fun _ => (hV1.rel (n := sN S) (fun i hi9 j hj9 => by by_cases e9 : i = (a * 8 + b); (subst e9; rw [fUp_s] at hj9; cases hj9); (rw [fUp_n e9] at hj9; by_cases e8 : i = (a2 * 8 + b2); (subst e8; rw [fUp_s] at hj9; exact hI.lt _ hi j hj9); (rw [fUp_n e8] at hj9; exact hI.lt i hi9 j hj9))) hn6).nbre hi2, hK0.tr hKm1⟩) (Nat.zero_le _) (Nat.zero_le _)
        · skip
          have f_66 : bTak (sB S (a2 * 8 + b2)) = true := (R.tk hi2).symm.trans c_66
          refine g_aload_n (q := 70) C dX6_move_69 rfl (by first | exact hRef_r _ | exact hRef_o _ | exact hRef_n) rfl ?_
          refine g_iconst (q := 71) (2) C dX6_move_70 (by decide) rfl ?_
          refine g_callV1I (q := 74) C hy_X6_no (c_X6_no Γ l 2 hQ hI) qw_763 (by exact mM) rfl ⟨Nat.le_of_ble_eq_true rfl, Nat.le_of_ble_eq_true rfl⟩ (Nat.le_of_ble_eq_true rfl) rfl dX6_move_71 ⟨rfl, rfl⟩ ⟨Nat.zero_le _, Nat.zero_le _⟩ rfl (fun x_71 M_71 p_71 => ?_)
          exact g_iret C dX6_move_74 (by have e_ : sMove S (nI a) (nI b) (nI a2) (nI b2) = (2, 0, S) := (by simp [sMove, f_10, f_19, f_54, f_66, hix, hix2]); rw [e_]; exact ⟨p_71.2.1.P, fun q => absurd (show (2 : Nat) = 0 from q) (by decide), hK0.tr p_71.2.2⟩) (Nat.zero_le _) (Nat.zero_le _)
    · skip
      have f_19 : isHk p2 q2 = false := c_19
      refine g_aload_n (q := 23) C dX6_move_22 rfl (by first | exact hRef_r _ | exact hRef_o _ | exact hRef_n) rfl ?_
      refine g_iconst (q := 24) (1) C dX6_move_23 (by decide) rfl ?_
      refine g_callV1I (q := 27) C hy_X6_no (c_X6_no Γ l 1 hQ hI) qw_763 (by exact mM) rfl ⟨Nat.le_of_ble_eq_true rfl, Nat.le_of_ble_eq_true rfl⟩ (Nat.le_of_ble_eq_true rfl) rfl dX6_move_24 ⟨rfl, rfl⟩ ⟨Nat.zero_le _, Nat.zero_le _⟩ rfl (fun x_24 M_24 p_24 => ?_)
      exact g_iret C dX6_move_27 (by have e_ : sMove S p q p2 q2 = (1, 0, S) := (by simp [sMove, f_10, f_19]); rw [e_]; exact ⟨p_24.2.1.P, fun q => absurd (show (1 : Nat) = 0 from q) (by decide), hK0.tr p_24.2.2⟩) (Nat.zero_le _) (Nat.zero_le _)
set_option maxRecDepth 100000 in
set_option maxHeartbeats 4000000 in
theorem c_X6_setWindow (Γ : hGam) (l : Launch) {M : hM} {m : Nat} {th : Int32} {S : hS} (p : Int32) (hP : mdP Γ M m th S) (hI : sInv S) : hMet Γ l yX6_setWindow cX6_setWindow 3 (some .int) rm_X6_setWindow [.ref m, .int p] M (hpI (fun a M1 => mdP Γ M1 m (nI (sSetW S p).1) (sSetW S p).2.2 ∧ ((sSetW S p).1 = 0 → a = (sSetW S p).2.1) ∧ hKm M M1)) := by
  obtain ⟨s, ah, od, ad, G, d1, d2, hQ0⟩ := hP
  refine hMet_of (by decide +kernel) (Nat.le_of_ble_eq_true rfl) (hCat_cons rfl (hCat_cons rfl hCat_nil)) (fun k9 C => ?_)
  show hG _ _ _ _ _ _ _ _ [some (.ref m), some (.int p), none] _
  refine g_aload_n (q := 1) C dX6_setWindow_0 rfl (by first | exact hRef_r _ | exact hRef_o _ | exact hRef_n) rfl ?_
  refine g_iconst (q := 2) (0) C dX6_setWindow_1 (by decide) rfl ?_
  refine g_put (q := 5) C hcl_X6 0 (by decide) qw_709 rfl rfl rfl rfl dX6_setWindow_2 (by exact hQ0.1) (Nat.le_of_ble_eq_true rfl) rfl ?_
  (try rw [hU_2])
  obtain ⟨hQ, hK0⟩ := hQ0.own 0
  obtain ⟨M0, hM0⟩ : ∃ Mz, Mz = hU M m (oModel 0 (sWin S) (nI (sN S)) (some (ad 15)) (some (ad 16)) (nI (sO S)) (some (ad 17)) (some (ad 18)) (some (ad 19)) (some (ad 20)) (givn S) (some s) (some ah) (some od)) := ⟨_, rfl⟩
  refine g_eqw (M1 := M0) hM0.symm ?_
  rw [← hM0] at hQ hK0
  have hQc := hQ
  obtain ⟨mM, mA, mS, mAh, mOd, mNe, mH, ⟨mO, mO0⟩, mV⟩ := hQc
  have hn6 := hI.1
  have ho6 := hI.2.1
  have R := mV.rel hI.lt hI.1
  refine g_iload_n (q := 6) C dX6_setWindow_5 rfl rfl ?_
  refine g_iconst (q := 7) (0) C dX6_setWindow_6 (by decide) rfl ?_
  refine g_iconst (q := 8) (3) C dX6_setWindow_7 (by decide) rfl ?_
  refine g_callS3P (q := 11) C hy_X6_isIn (c_X6_isIn Γ l p 0 3) qw_760 ⟨Nat.le_of_ble_eq_true rfl, Nat.le_of_ble_eq_true rfl⟩ (Nat.le_of_ble_eq_true rfl) rfl dX6_setWindow_8 ⟨rfl, rfl⟩ ⟨Nat.zero_le _, Nat.zero_le _⟩ rfl ?_
  refine g_ifB_ne (t := 20) (q := 14) C dX6_setWindow_11 (by decide) rfl (fun c_11 => ?_) (fun c_11 => ?_)
  · skip
    have f_11 : inR 0 3 p = true := c_11
    refine g_aload_n (q := 21) C dX6_setWindow_20 rfl (by first | exact hRef_r _ | exact hRef_o _ | exact hRef_n) rfl ?_
    refine g_get (q := 24) C hcl_X6 1 (by decide) qw_710 rfl dX6_setWindow_21 (by first | exact mM | exact mS) rfl rfl ?_
    refine g_istore2 (q := 25) C dX6_setWindow_24 (by first | rfl | exact hNw_rf _) rfl ?_
    refine g_aload_n (q := 26) C dX6_setWindow_25 rfl (by first | exact hRef_r _ | exact hRef_o _ | exact hRef_n) rfl ?_
    refine g_iload_n (q := 27) C dX6_setWindow_26 rfl rfl ?_
    refine g_put (q := 30) C hcl_X6 1 (by decide) qw_710 rfl rfl rfl rfl dX6_setWindow_27 (by first | exact mM | exact mS) (Nat.le_of_ble_eq_true rfl) rfl ?_
    (try rw [hU_2])
    refine g_iload_n (q := 31) C dX6_setWindow_30 rfl rfl ?_
    exact g_iret C dX6_setWindow_31 (by have e_ : sSetW S p = (0, sWin S, (S.1, S.2.1, S.2.2.1, p, S.2.2.2.2)) := (by simp [sSetW, f_11]); rw [e_]; have h9 := hQ.own2 0 (S.1, S.2.1, S.2.2.1, p, S.2.2.2.2) rfl mH ⟨mO, mO0⟩ mV; exact ⟨h9.1, fun _ => rfl, hK0.tr h9.2⟩) (Nat.zero_le _) (Nat.zero_le _)
  · skip
    have f_11 : inR 0 3 p = false := c_11
    refine g_aload_n (q := 15) C dX6_setWindow_14 rfl (by first | exact hRef_r _ | exact hRef_o _ | exact hRef_n) rfl ?_
    refine g_iconst (q := 16) (1) C dX6_setWindow_15 (by decide) rfl ?_
    refine g_callV1I (q := 19) C hy_X6_no (c_X6_no Γ l 1 hQ hI) qw_763 (by exact mM) rfl ⟨Nat.le_of_ble_eq_true rfl, Nat.le_of_ble_eq_true rfl⟩ (Nat.le_of_ble_eq_true rfl) rfl dX6_setWindow_16 ⟨rfl, rfl⟩ ⟨Nat.zero_le _, Nat.zero_le _⟩ rfl (fun x_16 M_16 p_16 => ?_)
    exact g_iret C dX6_setWindow_19 (by have e_ : sSetW S p = (1, 0, S) := (by simp [sSetW, f_11]); rw [e_]; exact ⟨p_16.2.1.P, fun q => absurd (show (1 : Nat) = 0 from q) (by decide), hK0.tr p_16.2.2⟩) (Nat.zero_le _) (Nat.zero_le _)
