set_option maxRecDepth 100000 in
set_option maxHeartbeats 4000000 in
theorem c_X6_foresee (Γ : hGam) (l : Launch) {M : hM} {m : Nat} {th : Int32} {S : hS} (d dmp w : Int32) (hP : mdP Γ M m th S) (hI : sInv S) : hMet Γ l yX6_foresee cX6_foresee 4 (some .int) rm_X6_foresee [.ref m, .int d, .int dmp, .int w] M (hpI (fun a M1 => mdP Γ M1 m (nI (sFore S d dmp w).1) S ∧ ((sFore S d dmp w).1 = 0 → a = (sFore S d dmp w).2) ∧ hKm M M1)) := by
  obtain ⟨s, ah, od, ad, G, d1, d2, hQ0⟩ := hP
  refine hMet_of (by decide +kernel) (Nat.le_of_ble_eq_true rfl) (hCat_cons rfl (hCat_cons rfl (hCat_cons rfl (hCat_cons rfl hCat_nil)))) (fun k9 C => ?_)
  show hG _ _ _ _ _ _ _ _ [some (.ref m), some (.int d), some (.int dmp), some (.int w)] _
  refine g_aload_n (q := 1) C dX6_foresee_0 rfl (by first | exact hRef_r _ | exact hRef_o _ | exact hRef_n) rfl ?_
  refine g_iconst (q := 2) (0) C dX6_foresee_1 (by decide) rfl ?_
  refine g_put (q := 5) C hcl_X6 0 (by decide) qw_709 rfl rfl rfl rfl dX6_foresee_2 (by exact hQ0.1) (Nat.le_of_ble_eq_true rfl) rfl ?_
  (try rw [hU_2])
  obtain ⟨hQ, hK0⟩ := hQ0.own 0
  obtain ⟨M0, hM0⟩ : ∃ Mz, Mz = hU M m (oModel 0 (sWin S) (nI (sN S)) (some (ad 15)) (some (ad 16)) (nI (sO S)) (some (ad 17)) (some (ad 18)) (some (ad 19)) (some (ad 20)) (givn S) (some s) (some ah) (some od)) := ⟨_, rfl⟩
  refine g_eqw (M1 := M0) hM0.symm ?_
  rw [← hM0] at hQ hK0
  have hQc := hQ
  obtain ⟨mM, mA, mS, mAh, mOd, mNe, mH, ⟨mO, mO0⟩, mV⟩ := hQc
  have hn6 := hI.1
  have ho6 := hI.2.1
  have R := mV.rel hI.lt hI.1
  refine g_iload_n (q := 6) C dX6_foresee_5 rfl rfl ?_
  refine g_iconst (q := 7) (1) C dX6_foresee_6 (by decide) rfl ?_
  refine g_bipush (q := 9) (60) C dX6_foresee_7 (by decide) rfl ?_
  refine g_callS3P (q := 12) C hy_X6_isIn (c_X6_isIn Γ l d 1 60) qw_760 ⟨Nat.le_of_ble_eq_true rfl, Nat.le_of_ble_eq_true rfl⟩ (Nat.le_of_ble_eq_true rfl) rfl dX6_foresee_9 ⟨rfl, rfl⟩ ⟨Nat.zero_le _, Nat.zero_le _⟩ rfl ?_
  refine g_ifB_eq (t := 25) (q := 15) C dX6_foresee_12 (by decide) rfl (fun c_12 => ?_) (fun c_12 => ?_)
  · skip
    have f_12 : inR 1 60 d = false := c_12
    refine g_aload_n (q := 26) C dX6_foresee_25 rfl (by first | exact hRef_r _ | exact hRef_o _ | exact hRef_n) rfl ?_
    refine g_iconst (q := 27) (1) C dX6_foresee_26 (by decide) rfl ?_
    refine g_callV1I (q := 30) C hy_X6_no (c_X6_no Γ l 1 hQ hI) qw_763 (by exact mM) rfl ⟨Nat.le_of_ble_eq_true rfl, Nat.le_of_ble_eq_true rfl⟩ (Nat.le_of_ble_eq_true rfl) rfl dX6_foresee_27 ⟨rfl, rfl⟩ ⟨Nat.zero_le _, Nat.zero_le _⟩ rfl (fun x_27 M_27 p_27 => ?_)
    exact g_iret C dX6_foresee_30 (by have e_ : sFore S d dmp w = (1, 0) := (by simp [sFore, f_12]); rw [e_]; exact ⟨p_27.2.1.P, fun q => absurd (show (1 : Nat) = 0 from q) (by decide), hK0.tr p_27.2.2⟩) (Nat.zero_le _) (Nat.zero_le _)
  · skip
    have f_12 : inR 1 60 d = true := c_12
    refine g_iload_n (q := 16) C dX6_foresee_15 rfl rfl ?_
    refine g_iconst (q := 17) (0) C dX6_foresee_16 (by decide) rfl ?_
    refine g_bipush (q := 19) (9) C dX6_foresee_17 (by decide) rfl ?_
    refine g_callS3P (q := 22) C hy_X6_isIn (c_X6_isIn Γ l dmp 0 9) qw_760 ⟨Nat.le_of_ble_eq_true rfl, Nat.le_of_ble_eq_true rfl⟩ (Nat.le_of_ble_eq_true rfl) rfl dX6_foresee_19 ⟨rfl, rfl⟩ ⟨Nat.zero_le _, Nat.zero_le _⟩ rfl ?_
    refine g_ifB_ne (t := 31) (q := 25) C dX6_foresee_22 (by decide) rfl (fun c_22 => ?_) (fun c_22 => ?_)
    · skip
      have f_22 : inR 0 9 dmp = true := c_22
      refine g_iload_n (q := 32) C dX6_foresee_31 rfl rfl ?_
      refine g_iconst (q := 33) (3) C dX6_foresee_32 (by decide) rfl ?_
      refine g_icmp_eq (t := 48) (q := 36) C dX6_foresee_33 (by decide) rfl (fun c_33 => ?_) (fun c_33 => ?_)
      · skip
        have f_33 : w = 3 := c_33
        refine g_aload_n (q := 49) C dX6_foresee_48 rfl (by first | exact hRef_r _ | exact hRef_o _ | exact hRef_n) rfl ?_
        refine g_get (q := 52) C hcl_X6 12 (by decide) qw_721 rfl dX6_foresee_49 (by exact mM) rfl rfl ?_
        refine g_aload_n (q := 53) C dX6_foresee_52 rfl (by first | exact hRef_r _ | exact hRef_o _ | exact hRef_n) rfl ?_
        refine g_get (q := 56) C hcl_X6 11 (by decide) qw_720 rfl dX6_foresee_53 (by exact mM) rfl rfl ?_
        refine g_callV1V (q := 59) C hy_X5_become (c_X5_become Γ l mA mAh (by decide) mS (by decide) (by decide) (Ne.symm mNe.1)) qw_853 (by exact mAh) rfl ⟨Nat.le_of_ble_eq_true rfl, Nat.le_of_ble_eq_true rfl⟩ (Nat.le_of_ble_eq_true rfl) rfl dX6_foresee_56 ⟨rfl, rfl⟩ ⟨Nat.zero_le _, Nat.zero_le _⟩ rfl (fun M_56 p_56 => ?_)
        obtain ⟨G1, hA1, hR1, hL1, ha1, hO1⟩ := p_56
        have hd1 := (hO1 od (fun q => by rcases q with ⟨c, hc, q⟩ | q; exact mA.ne hc mOd q; exact mNe.2.2 q.symm)).trans mOd
        obtain ⟨hQ1, hK1⟩ := hQ.ahd hA1 (fun c hc => hR1 c (by omega)) (fun c hc => hR1 c (by omega)) ha1 hd1 (hO1.wk (fun a q => q.imp id Or.inl))
        have hV1 := mV.ofR hL1
        obtain ⟨dn, hdn, rfl⟩ := inR_nI f_12 (by decide) (N := 60) rfl
        refine g_aload_n (q := 60) C dX6_foresee_59 rfl (by first | exact hRef_r _ | exact hRef_o _ | exact hRef_n) rfl ?_
        refine g_aload_n (q := 61) C dX6_foresee_60 rfl (by first | exact hRef_r _ | exact hRef_o _ | exact hRef_n) rfl ?_
        refine g_get (q := 64) C hcl_X6 12 (by decide) qw_721 rfl dX6_foresee_61 (by exact hQ1.1) rfl rfl ?_
        refine g_iload_n (q := 65) C dX6_foresee_64 rfl rfl ?_
        refine g_iload_n (q := 66) C dX6_foresee_65 rfl rfl ?_
        refine g_callV3V (q := 69) C hy_X6_daysOn (c_X6_daysOn Γ l (dn := dn) dmp hQ1.1 hQ1.2.1 hQ1.2.2.2.1 hQ1.2.2.2.2.1 mNe.2.2 (Or.inr rfl) hQ1.2.2.2.2.2.2.1 hV1 hI.lt hn6 (by omega)) qw_845 (by exact hQ1.1) rfl ⟨Nat.le_of_ble_eq_true rfl, Nat.le_of_ble_eq_true rfl⟩ (Nat.le_of_ble_eq_true rfl) rfl dX6_foresee_66 ⟨rfl, rfl⟩ ⟨Nat.zero_le _, Nat.zero_le _⟩ rfl (fun M_66 p_66 => ?_)
        obtain ⟨G3, hA3, hH3, hL3, hV3, hf3, ⟨dd3, hd3⟩, hO3⟩ := p_66
        obtain ⟨hQ3, hK3⟩ := hQ1.ahd hA3 hH3 (fun c hc => hL3 c (by omega) (by omega)) hf3 hd3 hO3
        refine g_aload_n (q := 70) C dX6_foresee_69 rfl (by first | exact hRef_r _ | exact hRef_o _ | exact hRef_n) rfl ?_
        refine g_get (q := 73) C hcl_X6 12 (by decide) qw_721 rfl dX6_foresee_70 (by exact hQ3.1) rfl rfl ?_
        refine g_iload_n (q := 74) C dX6_foresee_73 rfl rfl ?_
        refine g_callV1P (q := 77) C hy_X5_sum (c_X5_sum Γ l w hQ3.2.1 hQ3.2.2.2.1 (by decide)) qw_782 (by exact hQ3.2.2.2.1) rfl ⟨Nat.le_of_ble_eq_true rfl, Nat.le_of_ble_eq_true rfl⟩ (Nat.le_of_ble_eq_true rfl) rfl dX6_foresee_74 ⟨rfl, rfl⟩ ⟨Nat.zero_le _, Nat.zero_le _⟩ rfl ?_
        exact g_iret C dX6_foresee_77 (by have e_ : sFore S (nI dn) dmp w = (0, hIt (fBad (vDays (sE S) (sL S) (sWin S) dmp (sB S) dn)) 0 40) := (by simp [sFore, sAft, f_12, f_22, f_33, show hNo (nI dn) = dn from nI_clamp (by omega)]); rw [e_]; exact ⟨hQ3.P, fun _ => by rw [f_33]; exact fSm_3.trans (hV3.rel (vDays_lt hI.lt dn) hn6).bad, (hK0.tr hK1).tr hK3⟩) (Nat.zero_le _) (Nat.zero_le _)
      · skip
        have f_33 : ¬ w = 3 := c_33
        refine g_iload_n (q := 37) C dX6_foresee_36 rfl rfl ?_
        refine g_bipush (q := 39) (8) C dX6_foresee_37 (by decide) rfl ?_
        refine g_icmp_eq (t := 48) (q := 42) C dX6_foresee_39 (by decide) rfl (fun c_39 => ?_) (fun c_39 => ?_)
        · skip
          have f_39 : w = 8 := c_39
          refine g_aload_n (q := 49) C dX6_foresee_48 rfl (by first | exact hRef_r _ | exact hRef_o _ | exact hRef_n) rfl ?_
          refine g_get (q := 52) C hcl_X6 12 (by decide) qw_721 rfl dX6_foresee_49 (by exact mM) rfl rfl ?_
          refine g_aload_n (q := 53) C dX6_foresee_52 rfl (by first | exact hRef_r _ | exact hRef_o _ | exact hRef_n) rfl ?_
          refine g_get (q := 56) C hcl_X6 11 (by decide) qw_720 rfl dX6_foresee_53 (by exact mM) rfl rfl ?_
          refine g_callV1V (q := 59) C hy_X5_become (c_X5_become Γ l mA mAh (by decide) mS (by decide) (by decide) (Ne.symm mNe.1)) qw_853 (by exact mAh) rfl ⟨Nat.le_of_ble_eq_true rfl, Nat.le_of_ble_eq_true rfl⟩ (Nat.le_of_ble_eq_true rfl) rfl dX6_foresee_56 ⟨rfl, rfl⟩ ⟨Nat.zero_le _, Nat.zero_le _⟩ rfl (fun M_56 p_56 => ?_)
          obtain ⟨G1, hA1, hR1, hL1, ha1, hO1⟩ := p_56
          have hd1 := (hO1 od (fun q => by rcases q with ⟨c, hc, q⟩ | q; exact mA.ne hc mOd q; exact mNe.2.2 q.symm)).trans mOd
          obtain ⟨hQ1, hK1⟩ := hQ.ahd hA1 (fun c hc => hR1 c (by omega)) (fun c hc => hR1 c (by omega)) ha1 hd1 (hO1.wk (fun a q => q.imp id Or.inl))
          have hV1 := mV.ofR hL1
          obtain ⟨dn, hdn, rfl⟩ := inR_nI f_12 (by decide) (N := 60) rfl
          refine g_aload_n (q := 60) C dX6_foresee_59 rfl (by first | exact hRef_r _ | exact hRef_o _ | exact hRef_n) rfl ?_
          refine g_aload_n (q := 61) C dX6_foresee_60 rfl (by first | exact hRef_r _ | exact hRef_o _ | exact hRef_n) rfl ?_
          refine g_get (q := 64) C hcl_X6 12 (by decide) qw_721 rfl dX6_foresee_61 (by exact hQ1.1) rfl rfl ?_
          refine g_iload_n (q := 65) C dX6_foresee_64 rfl rfl ?_
          refine g_iload_n (q := 66) C dX6_foresee_65 rfl rfl ?_
          refine g_callV3V (q := 69) C hy_X6_daysOn (c_X6_daysOn Γ l (dn := dn) dmp hQ1.1 hQ1.2.1 hQ1.2.2.2.1 hQ1.2.2.2.2.1 mNe.2.2 (Or.inr rfl) hQ1.2.2.2.2.2.2.1 hV1 hI.lt hn6 (by omega)) qw_845 (by exact hQ1.1) rfl ⟨Nat.le_of_ble_eq_true rfl, Nat.le_of_ble_eq_true rfl⟩ (Nat.le_of_ble_eq_true rfl) rfl dX6_foresee_66 ⟨rfl, rfl⟩ ⟨Nat.zero_le _, Nat.zero_le _⟩ rfl (fun M_66 p_66 => ?_)
          obtain ⟨G3, hA3, hH3, hL3, hV3, hf3, ⟨dd3, hd3⟩, hO3⟩ := p_66
          obtain ⟨hQ3, hK3⟩ := hQ1.ahd hA3 hH3 (fun c hc => hL3 c (by omega) (by omega)) hf3 hd3 hO3
          refine g_aload_n (q := 70) C dX6_foresee_69 rfl (by first | exact hRef_r _ | exact hRef_o _ | exact hRef_n) rfl ?_
          refine g_get (q := 73) C hcl_X6 12 (by decide) qw_721 rfl dX6_foresee_70 (by exact hQ3.1) rfl rfl ?_
          refine g_iload_n (q := 74) C dX6_foresee_73 rfl rfl ?_
          refine g_callV1P (q := 77) C hy_X5_sum (c_X5_sum Γ l w hQ3.2.1 hQ3.2.2.2.1 (by decide)) qw_782 (by exact hQ3.2.2.2.1) rfl ⟨Nat.le_of_ble_eq_true rfl, Nat.le_of_ble_eq_true rfl⟩ (Nat.le_of_ble_eq_true rfl) rfl dX6_foresee_74 ⟨rfl, rfl⟩ ⟨Nat.zero_le _, Nat.zero_le _⟩ rfl ?_
          exact g_iret C dX6_foresee_77 (by have e_ : sFore S (nI dn) dmp w = (0, hIt (fSum (vDays (sE S) (sL S) (sWin S) dmp (sB S) dn)) 0 40) := (by simp [sFore, sAft, f_12, f_22, f_33, f_39, show hNo (nI dn) = dn from nI_clamp (by omega)]); rw [e_]; exact ⟨hQ3.P, fun _ => by rw [f_39]; exact fSm_8.trans (hV3.rel (vDays_lt hI.lt dn) hn6).sum, (hK0.tr hK1).tr hK3⟩) (Nat.zero_le _) (Nat.zero_le _)
        · skip
          have f_39 : ¬ w = 8 := c_39
          refine g_aload_n (q := 43) C dX6_foresee_42 rfl (by first | exact hRef_r _ | exact hRef_o _ | exact hRef_n) rfl ?_
          refine g_iconst (q := 44) (2) C dX6_foresee_43 (by decide) rfl ?_
          refine g_callV1I (q := 47) C hy_X6_no (c_X6_no Γ l 2 hQ hI) qw_763 (by exact mM) rfl ⟨Nat.le_of_ble_eq_true rfl, Nat.le_of_ble_eq_true rfl⟩ (Nat.le_of_ble_eq_true rfl) rfl dX6_foresee_44 ⟨rfl, rfl⟩ ⟨Nat.zero_le _, Nat.zero_le _⟩ rfl (fun x_44 M_44 p_44 => ?_)
          exact g_iret C dX6_foresee_47 (by have e_ : sFore S d dmp w = (2, 0) := (by simp [sFore, f_12, f_22, f_33, f_39]); rw [e_]; exact ⟨p_44.2.1.P, fun q => absurd (show (2 : Nat) = 0 from q) (by decide), hK0.tr p_44.2.2⟩) (Nat.zero_le _) (Nat.zero_le _)
    · skip
      have f_22 : inR 0 9 dmp = false := c_22
      refine g_aload_n (q := 26) C dX6_foresee_25 rfl (by first | exact hRef_r _ | exact hRef_o _ | exact hRef_n) rfl ?_
      refine g_iconst (q := 27) (1) C dX6_foresee_26 (by decide) rfl ?_
      refine g_callV1I (q := 30) C hy_X6_no (c_X6_no Γ l 1 hQ hI) qw_763 (by exact mM) rfl ⟨Nat.le_of_ble_eq_true rfl, Nat.le_of_ble_eq_true rfl⟩ (Nat.le_of_ble_eq_true rfl) rfl dX6_foresee_27 ⟨rfl, rfl⟩ ⟨Nat.zero_le _, Nat.zero_le _⟩ rfl (fun x_27 M_27 p_27 => ?_)
      exact g_iret C dX6_foresee_30 (by have e_ : sFore S d dmp w = (1, 0) := (by simp [sFore, f_12, f_22]); rw [e_]; exact ⟨p_27.2.1.P, fun q => absurd (show (1 : Nat) = 0 from q) (by decide), hK0.tr p_27.2.2⟩) (Nat.zero_le _) (Nat.zero_le _)
