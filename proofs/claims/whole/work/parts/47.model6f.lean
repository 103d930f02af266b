set_option maxRecDepth 100000 in
set_option maxHeartbeats 4000000 in
theorem c_X6_badBehind_n (Γ : hGam) (l : Launch) {M : hM} {m : Nat} {th : Int32} {S : hS} {s ah od : Nat} {ad : Nat → Nat} {G : Nat → Nat → Int32} {d1 d2 : Int32} {dn : Nat} (dmp : Int32)  (hQ : mdQ Γ M m th S s ah od ad G d1 d2) (hI : sInv S) (hdn : dn < 1000)  : hMet Γ l yX6_badBehind cX6_badBehind 4 (some .int) rm_X6_badBehind [.ref m, .int (-1), .int (nI dn), .int dmp] M (hpI (fun a M1 => a = scor (vDays (sE S) (sL S) (sWin S) dmp (sB S) dn) ∧ (∃ G1 e1 e2, mdQ Γ M1 m th S s ah od ad G1 e1 e2) ∧ hKm M M1)) := by
  have hQc := hQ
  obtain ⟨mM, mA, mS, mAh, mOd, mNe, mH, ⟨mO, mO0⟩, mV⟩ := hQc
  have hn6 := hI.1
  have ho6 := hI.2.1
  have R := mV.rel hI.lt hI.1
  refine hMet_of (by decide +kernel) (Nat.le_of_ble_eq_true rfl) (hCat_cons rfl (hCat_cons rfl (hCat_cons rfl (hCat_cons rfl hCat_nil)))) (fun k9 C => ?_)
  show hG _ _ _ _ _ _ _ _ [some (.ref m), some (.int (-1)), some (.int (nI dn)), some (.int dmp)] _
  refine g_aload_n (q := 1) C dX6_badBehind_0 rfl (by first | exact hRef_r _ | exact hRef_o _ | exact hRef_n) rfl ?_
  refine g_get (q := 4) C hcl_X6 12 (by decide) qw_721 rfl dX6_badBehind_1 (by exact mM) rfl rfl ?_
  refine g_aload_n (q := 5) C dX6_badBehind_4 rfl (by first | exact hRef_r _ | exact hRef_o _ | exact hRef_n) rfl ?_
  refine g_get (q := 8) C hcl_X6 11 (by decide) qw_720 rfl dX6_badBehind_5 (by exact mM) rfl rfl ?_
  refine g_callV1V (q := 11) C hy_X5_become (c_X5_become Γ l mA mAh (by decide) mS (by decide) (by decide) (Ne.symm mNe.1)) qw_853 (by exact mAh) rfl ⟨Nat.le_of_ble_eq_true rfl, Nat.le_of_ble_eq_true rfl⟩ (Nat.le_of_ble_eq_true rfl) rfl dX6_badBehind_8 ⟨rfl, rfl⟩ ⟨Nat.zero_le _, Nat.zero_le _⟩ rfl (fun M_8 p_8 => ?_)
  obtain ⟨G1, hA1, hR1, hL1, ha1, hO1⟩ := p_8
  have hd1 := (hO1 od (fun q => by rcases q with ⟨c, hc, q⟩ | q; exact mA.ne hc mOd q; exact mNe.2.2 q.symm)).trans mOd
  obtain ⟨hQ1, hK1⟩ := hQ.ahd hA1 (fun c hc => hR1 c (by omega)) (fun c hc => hR1 c (by omega)) ha1 hd1 (hO1.wk (fun a q => q.imp id Or.inl))
  have hV1 := mV.ofR hL1
  refine g_iload_n (q := 12) C dX6_badBehind_11 rfl rfl ?_
  refine g_iconst (q := 13) (-1) C dX6_badBehind_12 (by decide) rfl ?_
  refine g_icmp_eq (t := 24) (q := 16) C dX6_badBehind_13 (by decide) rfl (fun c_13 => ?_) (fun c_13 => ?_)
  · skip
    refine g_aload_n (q := 25) C dX6_badBehind_24 rfl (by first | exact hRef_r _ | exact hRef_o _ | exact hRef_n) rfl ?_
    refine g_aload_n (q := 26) C dX6_badBehind_25 rfl (by first | exact hRef_r _ | exact hRef_o _ | exact hRef_n) rfl ?_
    refine g_get (q := 29) C hcl_X6 12 (by decide) qw_721 rfl dX6_badBehind_26 (by exact hQ1.1) rfl rfl ?_
    refine g_iload_n (q := 30) C dX6_badBehind_29 rfl rfl ?_
    refine g_iload_n (q := 31) C dX6_badBehind_30 rfl rfl ?_
    refine g_callV3V (q := 34) C hy_X6_daysOn (c_X6_daysOn Γ l (dn := dn) dmp hQ1.1 hQ1.2.1 hQ1.2.2.2.1 hQ1.2.2.2.2.1 mNe.2.2 (Or.inr rfl) hQ1.2.2.2.2.2.2.1 hV1 hI.lt hn6 hdn) qw_845 (by exact hQ1.1) rfl ⟨Nat.le_of_ble_eq_true rfl, Nat.le_of_ble_eq_true rfl⟩ (Nat.le_of_ble_eq_true rfl) rfl dX6_badBehind_31 ⟨rfl, rfl⟩ ⟨Nat.zero_le _, Nat.zero_le _⟩ rfl (fun M_31 p_31 => ?_)
    obtain ⟨G3, hA3, hH3, hL3, hV3, hf3, ⟨dd3, hd3⟩, hO3⟩ := p_31
    obtain ⟨hQ3, hK3⟩ := hQ1.ahd hA3 hH3 (fun c hc => hL3 c (by omega) (by omega)) hf3 hd3 hO3
    refine g_sipush (q := 37) (10000) C dX6_badBehind_34 (by decide) rfl ?_
    refine g_aload_n (q := 38) C dX6_badBehind_37 rfl (by first | exact hRef_r _ | exact hRef_o _ | exact hRef_n) rfl ?_
    refine g_get (q := 41) C hcl_X6 12 (by decide) qw_721 rfl dX6_badBehind_38 (by exact hQ3.1) rfl rfl ?_
    refine g_iconst (q := 42) (3) C dX6_badBehind_41 (by decide) rfl ?_
    refine g_callV1P (q := 45) C hy_X5_sum (c_X5_sum Γ l 3 hQ3.2.1 hQ3.2.2.2.1 (by decide)) qw_782 (by exact hQ3.2.2.2.1) rfl ⟨Nat.le_of_ble_eq_true rfl, Nat.le_of_ble_eq_true rfl⟩ (Nat.le_of_ble_eq_true rfl) rfl dX6_badBehind_42 ⟨rfl, rfl⟩ ⟨Nat.zero_le _, Nat.zero_le _⟩ rfl ?_
    refine g_imul (q := 46) C dX6_badBehind_45 rfl ?_
    refine g_aload_n (q := 47) C dX6_badBehind_46 rfl (by first | exact hRef_r _ | exact hRef_o _ | exact hRef_n) rfl ?_
    refine g_get (q := 50) C hcl_X6 12 (by decide) qw_721 rfl dX6_badBehind_47 (by exact hQ3.1) rfl rfl ?_
    refine g_bipush (q := 52) (8) C dX6_badBehind_50 (by decide) rfl ?_
    refine g_callV1P (q := 55) C hy_X5_sum (c_X5_sum Γ l 8 hQ3.2.1 hQ3.2.2.2.1 (by decide)) qw_782 (by exact hQ3.2.2.2.1) rfl ⟨Nat.le_of_ble_eq_true rfl, Nat.le_of_ble_eq_true rfl⟩ (Nat.le_of_ble_eq_true rfl) rfl dX6_badBehind_52 ⟨rfl, rfl⟩ ⟨Nat.zero_le _, Nat.zero_le _⟩ rfl ?_
    refine g_iadd (q := 56) C dX6_badBehind_55 rfl ?_
    exact g_iret C dX6_badBehind_56 (⟨by have r9 := hV3.rel (vDays_lt hI.lt dn) hn6; rw [fSm_3, fSm_8, r9.bad, r9.sum]; unfold scor; rw [Int32.mul_comm 10000], ⟨_, _, _, hQ3⟩, (hK1.tr hK3)⟩) (Nat.zero_le _) (Nat.zero_le _)
  · skip
    exact absurd rfl c_13
set_option maxRecDepth 100000 in
set_option maxHeartbeats 4000000 in
theorem c_X6_badBehind_s (Γ : hGam) (l : Launch) {M : hM} {m : Nat} {th : Int32} {S : hS} {s ah od : Nat} {ad : Nat → Nat} {G : Nat → Nat → Int32} {d1 d2 : Int32} {dn : Nat} (dmp : Int32) {sn : Nat} (hQ : mdQ Γ M m th S s ah od ad G d1 d2) (hI : sInv S) (hdn : dn < 1000) (hs5 : sn < 5) : hMet Γ l yX6_badBehind cX6_badBehind 4 (some .int) rm_X6_badBehind [.ref m, .int (nI sn), .int (nI dn), .int dmp] M (hpI (fun a M1 => a = scor (vDays (sE S) (sL S) (sWin S) dmp (vTurn sn (sB S)) dn) ∧ (∃ G1 e1 e2, mdQ Γ M1 m th S s ah od ad G1 e1 e2) ∧ hKm M M1)) := by
  have hQc := hQ
  obtain ⟨mM, mA, mS, mAh, mOd, mNe, mH, ⟨mO, mO0⟩, mV⟩ := hQc
  have hn6 := hI.1
  have ho6 := hI.2.1
  have R := mV.rel hI.lt hI.1
  refine hMet_of (by decide +kernel) (Nat.le_of_ble_eq_true rfl) (hCat_cons rfl (hCat_cons rfl (hCat_cons rfl (hCat_cons rfl hCat_nil)))) (fun k9 C => ?_)
  show hG _ _ _ _ _ _ _ _ [some (.ref m), some (.int (nI sn)), some (.int (nI dn)), some (.int dmp)] _
  refine g_aload_n (q := 1) C dX6_badBehind_0 rfl (by first | exact hRef_r _ | exact hRef_o _ | exact hRef_n) rfl ?_
  refine g_get (q := 4) C hcl_X6 12 (by decide) qw_721 rfl dX6_badBehind_1 (by exact mM) rfl rfl ?_
  refine g_aload_n (q := 5) C dX6_badBehind_4 rfl (by first | exact hRef_r _ | exact hRef_o _ | exact hRef_n) rfl ?_
  refine g_get (q := 8) C hcl_X6 11 (by decide) qw_720 rfl dX6_badBehind_5 (by exact mM) rfl rfl ?_
  refine g_callV1V (q := 11) C hy_X5_become (c_X5_become Γ l mA mAh (by decide) mS (by decide) (by decide) (Ne.symm mNe.1)) qw_853 (by exact mAh) rfl ⟨Nat.le_of_ble_eq_true rfl, Nat.le_of_ble_eq_true rfl⟩ (Nat.le_of_ble_eq_true rfl) rfl dX6_badBehind_8 ⟨rfl, rfl⟩ ⟨Nat.zero_le _, Nat.zero_le _⟩ rfl (fun M_8 p_8 => ?_)
  obtain ⟨G1, hA1, hR1, hL1, ha1, hO1⟩ := p_8
  have hd1 := (hO1 od (fun q => by rcases q with ⟨c, hc, q⟩ | q; exact mA.ne hc mOd q; exact mNe.2.2 q.symm)).trans mOd
  obtain ⟨hQ1, hK1⟩ := hQ.ahd hA1 (fun c hc => hR1 c (by omega)) (fun c hc => hR1 c (by omega)) ha1 hd1 (hO1.wk (fun a q => q.imp id Or.inl))
  have hV1 := mV.ofR hL1
  refine g_iload_n (q := 12) C dX6_badBehind_11 rfl rfl ?_
  refine g_iconst (q := 13) (-1) C dX6_badBehind_12 (by decide) rfl ?_
  refine g_icmp_eq (t := 24) (q := 16) C dX6_badBehind_13 (by decide) rfl (fun c_13 => ?_) (fun c_13 => ?_)
  · skip
    exact absurd c_13 (nI_m1 (by omega))
  · skip
    refine g_aload_n (q := 17) C dX6_badBehind_16 rfl (by first | exact hRef_r _ | exact hRef_o _ | exact hRef_n) rfl ?_
    refine g_get (q := 20) C hcl_X6 12 (by decide) qw_721 rfl dX6_badBehind_17 (by exact hQ1.1) rfl rfl ?_
    refine g_iload_n (q := 21) C dX6_badBehind_20 rfl rfl ?_
    refine g_callV1V (q := 24) C hy_X5_turn (c_X5_turn Γ l hQ1.2.1 hQ1.2.2.2.1 (by decide) hs5) qw_817 (by exact hQ1.2.2.2.1) rfl ⟨Nat.le_of_ble_eq_true rfl, Nat.le_of_ble_eq_true rfl⟩ (Nat.le_of_ble_eq_true rfl) rfl dX6_badBehind_21 ⟨rfl, rfl⟩ ⟨Nat.zero_le _, Nat.zero_le _⟩ rfl (fun M_21 p_21 => ?_)
    obtain ⟨G2, hA2, hR2, hL2, hO2⟩ := p_21
    have hA2x := hQ1.2.1.kc hO2
    obtain ⟨hQ2, hK2⟩ := hQ1.ahd hA2 (fun c hc => hR2 c (by omega)) (fun c hc => hR2 c (by omega)) (hA2x _ _ _ ha1) (hA2x _ _ _ hd1) (hO2.wk (fun a q => Or.inl q))
    have hV2 := hV1.turn5 hL2
    refine g_aload_n (q := 25) C dX6_badBehind_24 rfl (by first | exact hRef_r _ | exact hRef_o _ | exact hRef_n) rfl ?_
    refine g_aload_n (q := 26) C dX6_badBehind_25 rfl (by first | exact hRef_r _ | exact hRef_o _ | exact hRef_n) rfl ?_
    refine g_get (q := 29) C hcl_X6 12 (by decide) qw_721 rfl dX6_badBehind_26 (by exact hQ2.1) rfl rfl ?_
    refine g_iload_n (q := 30) C dX6_badBehind_29 rfl rfl ?_
    refine g_iload_n (q := 31) C dX6_badBehind_30 rfl rfl ?_
    refine g_callV3V (q := 34) C hy_X6_daysOn (c_X6_daysOn Γ l (dn := dn) dmp hQ2.1 hQ2.2.1 hQ2.2.2.2.1 hQ2.2.2.2.2.1 mNe.2.2 (Or.inr rfl) hQ2.2.2.2.2.2.2.1 hV2 (hI.tu sn) hn6 hdn) qw_845 (by exact hQ2.1) rfl ⟨Nat.le_of_ble_eq_true rfl, Nat.le_of_ble_eq_true rfl⟩ (Nat.le_of_ble_eq_true rfl) rfl dX6_badBehind_31 ⟨rfl, rfl⟩ ⟨Nat.zero_le _, Nat.zero_le _⟩ rfl (fun M_31 p_31 => ?_)
    obtain ⟨G3, hA3, hH3, hL3, hV3, hf3, ⟨dd3, hd3⟩, hO3⟩ := p_31
    obtain ⟨hQ3, hK3⟩ := hQ2.ahd hA3 hH3 (fun c hc => hL3 c (by omega) (by omega)) hf3 hd3 hO3
    refine g_sipush (q := 37) (10000) C dX6_badBehind_34 (by decide) rfl ?_
    refine g_aload_n (q := 38) C dX6_badBehind_37 rfl (by first | exact hRef_r _ | exact hRef_o _ | exact hRef_n) rfl ?_
    refine g_get (q := 41) C hcl_X6 12 (by decide) qw_721 rfl dX6_badBehind_38 (by exact hQ3.1) rfl rfl ?_
    refine g_iconst (q := 42) (3) C dX6_badBehind_41 (by decide) rfl ?_
    refine g_callV1P (q := 45) C hy_X5_sum (c_X5_sum Γ l 3 hQ3.2.1 hQ3.2.2.2.1 (by decide)) qw_782 (by exact hQ3.2.2.2.1) rfl ⟨Nat.le_of_ble_eq_true rfl, Nat.le_of_ble_eq_true rfl⟩ (Nat.le_of_ble_eq_true rfl) rfl dX6_badBehind_42 ⟨rfl, rfl⟩ ⟨Nat.zero_le _, Nat.zero_le _⟩ rfl ?_
    refine g_imul (q := 46) C dX6_badBehind_45 rfl ?_
    refine g_aload_n (q := 47) C dX6_badBehind_46 rfl (by first | exact hRef_r _ | exact hRef_o _ | exact hRef_n) rfl ?_
    refine g_get (q := 50) C hcl_X6 12 (by decide) qw_721 rfl dX6_badBehind_47 (by exact hQ3.1) rfl rfl ?_
    refine g_bipush (q := 52) (8) C dX6_badBehind_50 (by decide) rfl ?_
    refine g_callV1P (q := 55) C hy_X5_sum (c_X5_sum Γ l 8 hQ3.2.1 hQ3.2.2.2.1 (by decide)) qw_782 (by exact hQ3.2.2.2.1) rfl ⟨Nat.le_of_ble_eq_true rfl, Nat.le_of_ble_eq_true rfl⟩ (Nat.le_of_ble_eq_true rfl) rfl dX6_badBehind_52 ⟨rfl, rfl⟩ ⟨Nat.zero_le _, Nat.zero_le _⟩ rfl ?_
    refine g_iadd (q := 56) C dX6_badBehind_55 rfl ?_
    exact g_iret C dX6_badBehind_56 (⟨by have r9 := hV3.rel (vDays_lt (hI.tu sn) dn) hn6; rw [fSm_3, fSm_8, r9.bad, r9.sum]; unfold scor; rw [Int32.mul_comm 10000], ⟨_, _, _, hQ3⟩, ((hK1.tr hK2).tr hK3)⟩) (Nat.zero_le _) (Nat.zero_le _)
