set_option maxRecDepth 100000 in
set_option maxHeartbeats 4000000 in
theorem c_X6_pass (Γ : hGam) (l : Launch) {M : hM} {m : Nat} {th : Int32} {S : hS} (d dmp : Int32) (hP : mdP Γ M m th S) (hI : sInv S) : hMet Γ l yX6_pass cX6_pass 3 (some .int) rm_X6_pass [.ref m, .int d, .int dmp] M (hpI (fun a M1 => mdP Γ M1 m (nI (sPass S d dmp).1) (sPass S d dmp).2.2 ∧ ((sPass S d dmp).1 = 0 → a = (sPass S d dmp).2.1) ∧ hKm M M1)) := by
  obtain ⟨s, ah, od, ad, G, d1, d2, hQ0⟩ := hP
  refine hMet_of (by decide +kernel) (Nat.le_of_ble_eq_true rfl) (hCat_cons rfl (hCat_cons rfl (hCat_cons rfl hCat_nil))) (fun k9 C => ?_)
  show hG _ _ _ _ _ _ _ _ [some (.ref m), some (.int d), some (.int dmp)] _
  refine g_aload_n (q := 1) C dX6_pass_0 rfl (by first | exact hRef_r _ | exact hRef_o _ | exact hRef_n) rfl ?_
  refine g_iconst (q := 2) (0) C dX6_pass_1 (by decide) rfl ?_
  refine g_put (q := 5) C hcl_X6 0 (by decide) qw_709 rfl rfl rfl rfl dX6_pass_2 (by exact hQ0.1) (Nat.le_of_ble_eq_true rfl) rfl ?_
  (try rw [hU_2])
  obtain ⟨hQ, hK0⟩ := hQ0.own 0
  obtain ⟨M0, hM0⟩ : ∃ Mz, Mz = hU M m (oModel 0 (sWin S) (nI (sN S)) (some (ad 15)) (some (ad 16)) (nI (sO S)) (some (ad 17)) (some (ad 18)) (some (ad 19)) (some (ad 20)) (givn S) (some s) (some ah) (some od)) := ⟨_, rfl⟩
  refine g_eqw (M1 := M0) hM0.symm ?_
  rw [← hM0] at hQ hK0
  have hQc := hQ
  obtain ⟨mM, mA, mS, mAh, mOd, mNe, mH, ⟨mO, mO0⟩, mV⟩ := hQc
  have hn6 := hI.1
  have ho6 := hI.2.1
  have R := mV.rel hI.lt hI.1
  refine g_iload_n (q := 6) C dX6_pass_5 rfl rfl ?_
  refine g_iconst (q := 7) (1) C dX6_pass_6 (by decide) rfl ?_
  refine g_bipush (q := 9) (60) C dX6_pass_7 (by decide) rfl ?_
  refine g_callS3P (q := 12) C hy_X6_isIn (c_X6_isIn Γ l d 1 60) qw_760 ⟨Nat.le_of_ble_eq_true rfl, Nat.le_of_ble_eq_true rfl⟩ (Nat.le_of_ble_eq_true rfl) rfl dX6_pass_9 ⟨rfl, rfl⟩ ⟨Nat.zero_le _, Nat.zero_le _⟩ rfl ?_
  refine g_ifB_eq (t := 25) (q := 15) C dX6_pass_12 (by decide) rfl (fun c_12 => ?_) (fun c_12 => ?_)
  · skip
    have f_12 : inR 1 60 d = false := c_12
    refine g_aload_n (q := 26) C dX6_pass_25 rfl (by first | exact hRef_r _ | exact hRef_o _ | exact hRef_n) rfl ?_
    refine g_iconst (q := 27) (1) C dX6_pass_26 (by decide) rfl ?_
    refine g_callV1I (q := 30) C hy_X6_no (c_X6_no Γ l 1 hQ hI) qw_763 (by exact mM) rfl ⟨Nat.le_of_ble_eq_true rfl, Nat.le_of_ble_eq_true rfl⟩ (Nat.le_of_ble_eq_true rfl) rfl dX6_pass_27 ⟨rfl, rfl⟩ ⟨Nat.zero_le _, Nat.zero_le _⟩ rfl (fun x_27 M_27 p_27 => ?_)
    exact g_iret C dX6_pass_30 (by have e_ : sPass S d dmp = (1, 0, S) := (by simp [sPass, f_12]); rw [e_]; exact ⟨p_27.2.1.P, fun q => absurd (show (1 : Nat) = 0 from q) (by decide), hK0.tr p_27.2.2⟩) (Nat.zero_le _) (Nat.zero_le _)
  · skip
    have f_12 : inR 1 60 d = true := c_12
    refine g_iload_n (q := 16) C dX6_pass_15 rfl rfl ?_
    refine g_iconst (q := 17) (0) C dX6_pass_16 (by decide) rfl ?_
    refine g_bipush (q := 19) (9) C dX6_pass_17 (by decide) rfl ?_
    refine g_callS3P (q := 22) C hy_X6_isIn (c_X6_isIn Γ l dmp 0 9) qw_760 ⟨Nat.le_of_ble_eq_true rfl, Nat.le_of_ble_eq_true rfl⟩ (Nat.le_of_ble_eq_true rfl) rfl dX6_pass_19 ⟨rfl, rfl⟩ ⟨Nat.zero_le _, Nat.zero_le _⟩ rfl ?_
    refine g_ifB_ne (t := 31) (q := 25) C dX6_pass_22 (by decide) rfl (fun c_22 => ?_) (fun c_22 => ?_)
    · skip
      have f_22 : inR 0 9 dmp = true := c_22
      obtain ⟨dn, hdn, rfl⟩ := inR_nI f_12 (by decide) (N := 60) rfl
      refine g_aload_n (q := 32) C dX6_pass_31 rfl (by first | exact hRef_r _ | exact hRef_o _ | exact hRef_n) rfl ?_
      refine g_aload_n (q := 33) C dX6_pass_32 rfl (by first | exact hRef_r _ | exact hRef_o _ | exact hRef_n) rfl ?_
      refine g_get (q := 36) C hcl_X6 11 (by decide) qw_720 rfl dX6_pass_33 (by first | exact mM | exact mS) rfl rfl ?_
      refine g_iload_n (q := 37) C dX6_pass_36 rfl rfl ?_
      refine g_iload_n (q := 38) C dX6_pass_37 rfl rfl ?_
      refine g_callV3V (q := 41) C hy_X6_daysOn (c_X6_daysOn Γ l (dn := dn) dmp mM mA mS mOd mNe.2.1 (Or.inl rfl) mH mV hI.lt hn6 (by omega)) qw_845 (by exact mM) rfl ⟨Nat.le_of_ble_eq_true rfl, Nat.le_of_ble_eq_true rfl⟩ (Nat.le_of_ble_eq_true rfl) rfl dX6_pass_38 ⟨rfl, rfl⟩ ⟨Nat.zero_le _, Nat.zero_le _⟩ rfl (fun M_38 p_38 => ?_)
      obtain ⟨G1, hA1, hH1, hL1, hV1, hs1, ⟨dd1, hd1⟩, hO1⟩ := p_38
      obtain ⟨hQ1, hK1⟩ := hQ.now hA1 hH1 hs1 hd1 hO1 hV1
      refine g_aload_n (q := 42) C dX6_pass_41 rfl (by first | exact hRef_r _ | exact hRef_o _ | exact hRef_n) rfl ?_
      refine g_get (q := 45) C hcl_X6 11 (by decide) qw_720 rfl dX6_pass_42 (by exact hQ1.1) rfl rfl ?_
      refine g_iconst (q := 46) (3) C dX6_pass_45 (by decide) rfl ?_
      refine g_callV1P (q := 49) C hy_X5_sum (c_X5_sum Γ l 3 hA1 hs1 (by decide)) qw_782 (by exact hs1) rfl ⟨Nat.le_of_ble_eq_true rfl, Nat.le_of_ble_eq_true rfl⟩ (Nat.le_of_ble_eq_true rfl) rfl dX6_pass_46 ⟨rfl, rfl⟩ ⟨Nat.zero_le _, Nat.zero_le _⟩ rfl ?_
      exact g_iret C dX6_pass_49 (by have e_ : sPass S (nI dn) dmp = (0, hIt (fBad (vDays (sE S) (sL S) (sWin S) dmp (sB S) dn)) 0 40, (S.1, S.2.1, (vDays (sE S) (sL S) (sWin S) dmp (sB S) dn), S.2.2.2.1, S.2.2.2.2 + nI dn)) := (by simp [sPass, sAft, f_12, f_22, show hNo (nI dn) = dn from nI_clamp (by omega)]); rw [e_]; exact ⟨hQ1.P, fun _ => fSm_3.trans (hV1.rel (vDays_lt hI.lt dn) hn6).bad, hK0.tr hK1⟩) (Nat.zero_le _) (Nat.zero_le _)
    · skip
      have f_22 : inR 0 9 dmp = false := c_22
      refine g_aload_n (q := 26) C dX6_pass_25 rfl (by first | exact hRef_r _ | exact hRef_o _ | exact hRef_n) rfl ?_
      refine g_iconst (q := 27) (1) C dX6_pass_26 (by decide) rfl ?_
      refine g_callV1I (q := 30) C hy_X6_no (c_X6_no Γ l 1 hQ hI) qw_763 (by exact mM) rfl ⟨Nat.le_of_ble_eq_true rfl, Nat.le_of_ble_eq_true rfl⟩ (Nat.le_of_ble_eq_true rfl) rfl dX6_pass_27 ⟨rfl, rfl⟩ ⟨Nat.zero_le _, Nat.zero_le _⟩ rfl (fun x_27 M_27 p_27 => ?_)
      exact g_iret C dX6_pass_30 (by have e_ : sPass S d dmp = (1, 0, S) := (by simp [sPass, f_12, f_22]); rw [e_]; exact ⟨p_27.2.1.P, fun q => absurd (show (1 : Nat) = 0 from q) (by decide), hK0.tr p_27.2.2⟩) (Nat.zero_le _) (Nat.zero_le _)
