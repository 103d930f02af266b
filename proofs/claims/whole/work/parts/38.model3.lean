set_option maxRecDepth 100000 in
set_option maxHeartbeats 4000000 in
theorem c_X6_turn (Γ : hGam) (l : Launch) {M : hM} {m : Nat} {th : Int32} {S : hS} (p : Int32) (hP : mdP Γ M m th S) (hI : sInv S) : hMet Γ l yX6_turn cX6_turn 4 (some .int) rm_X6_turn [.ref m, .int p] M (hpI (fun a M1 => mdP Γ M1 m (nI (sTurn S p).1) (sTurn S p).2.2 ∧ ((sTurn S p).1 = 0 → a = (sTurn S p).2.1) ∧ hKm M M1)) := by
  obtain ⟨s, ah, od, ad, G, d1, d2, hQ0⟩ := hP
  refine hMet_of (by decide +kernel) (Nat.le_of_ble_eq_true rfl) (hCat_cons rfl (hCat_cons rfl hCat_nil)) (fun k9 C => ?_)
  show hG _ _ _ _ _ _ _ _ [some (.ref m), some (.int p), none, none] _
  refine g_aload_n (q := 1) C dX6_turn_0 rfl (by first | exact hRef_r _ | exact hRef_o _ | exact hRef_n) rfl ?_
  refine g_iconst (q := 2) (0) C dX6_turn_1 (by decide) rfl ?_
  refine g_put (q := 5) C hcl_X6 0 (by decide) qw_709 rfl rfl rfl rfl dX6_turn_2 (by exact hQ0.1) (Nat.le_of_ble_eq_true rfl) rfl ?_
  (try rw [hU_2])
  obtain ⟨hQ, hK0⟩ := hQ0.own 0
  obtain ⟨M0, hM0⟩ : ∃ Mz, Mz = hU M m (oModel 0 (sWin S) (nI (sN S)) (some (ad 15)) (some (ad 16)) (nI (sO S)) (some (ad 17)) (some (ad 18)) (some (ad 19)) (some (ad 20)) (givn S) (some s) (some ah) (some od)) := ⟨_, rfl⟩
  refine g_eqw (M1 := M0) hM0.symm ?_
  rw [← hM0] at hQ hK0
  have hQc := hQ
  obtain ⟨mM, mA, mS, mAh, mOd, mNe, mH, ⟨mO, mO0⟩, mV⟩ := hQc
  have hn6 := hI.1
  have ho6 := hI.2.1
  have R := mV.rel hI.lt hI.1
  refine g_iload_n (q := 6) C dX6_turn_5 rfl rfl ?_
  refine g_iconst (q := 7) (0) C dX6_turn_6 (by decide) rfl ?_
  refine g_iconst (q := 8) (4) C dX6_turn_7 (by decide) rfl ?_
  refine g_callS3P (q := 11) C hy_X6_isIn (c_X6_isIn Γ l p 0 4) qw_760 ⟨Nat.le_of_ble_eq_true rfl, Nat.le_of_ble_eq_true rfl⟩ (Nat.le_of_ble_eq_true rfl) rfl dX6_turn_8 ⟨rfl, rfl⟩ ⟨Nat.zero_le _, Nat.zero_le _⟩ rfl ?_
  refine g_ifB_ne (t := 20) (q := 14) C dX6_turn_11 (by decide) rfl (fun c_11 => ?_) (fun c_11 => ?_)
  · skip
    have f_11 : inStr p = true := c_11
    obtain ⟨sn, hsn, rfl⟩ := h_rng f_11 rfl (N := 4) rfl
    refine g_aload_n (q := 21) C dX6_turn_20 rfl (by first | exact hRef_r _ | exact hRef_o _ | exact hRef_n) rfl ?_
    refine g_get (q := 24) C hcl_X6 11 (by decide) qw_720 rfl dX6_turn_21 (by first | exact mM | exact mS) rfl rfl ?_
    refine g_iload_n (q := 25) C dX6_turn_24 rfl rfl ?_
    refine g_callV1V (q := 28) C hy_X5_turn (c_X5_turn Γ l mA mS (by decide) (show sn < 5 by omega)) qw_817 (by exact mS) rfl ⟨Nat.le_of_ble_eq_true rfl, Nat.le_of_ble_eq_true rfl⟩ (Nat.le_of_ble_eq_true rfl) rfl dX6_turn_25 ⟨rfl, rfl⟩ ⟨Nat.zero_le _, Nat.zero_le _⟩ rfl (fun M_25 p_25 => ?_)
    obtain ⟨G1, hA1, hR1, hL1, hO1⟩ := p_25
    have hKm1 := mA.km hO1
    have hk1 := mA.kc hO1
    have hV1 := mV.turn hL1
    have R1 := hV1.rel (hI.tu sn) hn6
    refine g_iconst (q := 29) (0) C dX6_turn_28 (by decide) rfl ?_
    refine g_istore2 (q := 30) C dX6_turn_29 (by first | rfl | exact hNw_rf _) rfl ?_
    refine g_iconst (q := 31) (0) C dX6_turn_30 (by decide) rfl ?_
    refine g_istore3 (q := 32) C dX6_turn_31 (by first | rfl | exact hNw_rf _) rfl ?_
    refine h_loopU (P := fun h => ∀ acc : Int32, acc = hIt (fT8 (vTurn sn (sB S)) sn) 0 h → hG Γ k9 _ _ M_25 0 0 32 [some (.ref m), some (.int (nI sn)), some (.int acc), some (.int (nI h))] []) (N := 8) (fun h hh ih => ?_) 0 (Nat.zero_le _) _ rfl
    intro acc hacc
    refine g_iload_n (q := 33) C dX6_turn_32 rfl rfl ?_
    refine g_bipush (q := 35) (8) C dX6_turn_33 (by decide) rfl ?_
    refine g_icmp_ge (t := 68) (q := 38) C dX6_turn_35 (by decide) rfl (fun c_35 => ?_) (fun c_35 => ?_)
    · skip
      have hN := nI_ge_eq hh (by decide) c_35
      subst hN
      refine g_iload_n (q := 69) C dX6_turn_68 rfl rfl ?_
      exact g_iret C dX6_turn_69 (by have e_ : sTurn S (nI sn) = (0, hIt (fTurn sn (sB S)) 0 40, setB S (vTurn sn (sB S))) := (by simp [sTurn, f_11, show hNo (nI sn) = sn from nI_clamp (by omega)]); rw [e_]; exact ⟨hQ.bun hA1 hk1 (fun c i hc => by rw [hR1 c (by omega)]) hV1, fun _ => by rw [hacc]; exact (tr_8 (sB S) sn).trans (tr_40 (sB S) (by omega)).symm, hK0.tr hKm1⟩) (Nat.zero_le _) (Nat.zero_le _)
    · skip
      have hlt := nI_nge_lt hh (by decide) c_35
      have hix9 : sn * 8 + h < 40 := by omega
      refine g_iload_n (q := 39) C dX6_turn_38 rfl rfl ?_
      refine g_aload_n (q := 40) C dX6_turn_39 rfl (by first | exact hRef_r _ | exact hRef_o _ | exact hRef_n) rfl ?_
      refine g_get (q := 43) C hcl_X6 11 (by decide) qw_720 rfl dX6_turn_40 (by exact hk1 _ _ _ mM) rfl rfl ?_
      refine g_bipush (q := 45) (8) C dX6_turn_43 (by decide) rfl ?_
      refine g_iload_n (q := 46) C dX6_turn_45 rfl rfl ?_
      refine g_imul (q := 47) C dX6_turn_46 rfl ?_
      refine g_iload_n (q := 48) C dX6_turn_47 rfl rfl ?_
      refine g_iadd (q := 49) C dX6_turn_48 rfl ?_
      rw [ix_md]
      refine g_callV1P (q := 52) C hy_X5_hangs (c_X5_hangs Γ l (sn * 8 + h) hA1 (hk1 _ _ _ mS) (by decide) hix9) qw_778 (by exact hk1 _ _ _ mS) rfl ⟨Nat.le_of_ble_eq_true rfl, Nat.le_of_ble_eq_true rfl⟩ (Nat.le_of_ble_eq_true rfl) rfl dX6_turn_49 ⟨rfl, rfl⟩ ⟨Nat.zero_le _, Nat.zero_le _⟩ rfl ?_
      refine g_ifB_eq (t := 59) (q := 55) C dX6_turn_52 (by decide) rfl (fun c_52 => ?_) (fun c_52 => ?_)
      · skip
        refine g_iconst (q := 60) (0) C dX6_turn_59 (by decide) rfl ?_
        refine g_iadd (q := 61) C dX6_turn_60 rfl ?_
        refine g_istore2 (q := 62) C dX6_turn_61 (by first | rfl | exact hNw_rf _) rfl ?_
        refine g_iinc3 (q := 65) (1) C dX6_turn_62 (by decide) (by first | rfl | exact hNw_rf _) rfl ?_
        refine g_goto (t := 32) C dX6_turn_65 (by decide) ?_
        rw [nI_1]
        refine ih hlt _ ?_
        rw [hIt_s, ← hacc]
        unfold fT8
        simp [← R1.tk hix9, c_52]
      · skip
        refine g_iconst (q := 56) (1) C dX6_turn_55 (by decide) rfl ?_
        refine g_goto (t := 60) C dX6_turn_56 (by decide) ?_
        refine g_iadd (q := 61) C dX6_turn_60 rfl ?_
        refine g_istore2 (q := 62) C dX6_turn_61 (by first | rfl | exact hNw_rf _) rfl ?_
        refine g_iinc3 (q := 65) (1) C dX6_turn_62 (by decide) (by first | rfl | exact hNw_rf _) rfl ?_
        refine g_goto (t := 32) C dX6_turn_65 (by decide) ?_
        rw [nI_1]
        refine ih hlt _ ?_
        rw [hIt_s, ← hacc]
        unfold fT8
        simp [← R1.tk hix9, c_52]
  · skip
    have f_11 : inStr p = false := c_11
    refine g_aload_n (q := 15) C dX6_turn_14 rfl (by first | exact hRef_r _ | exact hRef_o _ | exact hRef_n) rfl ?_
    refine g_iconst (q := 16) (1) C dX6_turn_15 (by decide) rfl ?_
    refine g_callV1I (q := 19) C hy_X6_no (c_X6_no Γ l 1 hQ hI) qw_763 (by exact mM) rfl ⟨Nat.le_of_ble_eq_true rfl, Nat.le_of_ble_eq_true rfl⟩ (Nat.le_of_ble_eq_true rfl) rfl dX6_turn_16 ⟨rfl, rfl⟩ ⟨Nat.zero_le _, Nat.zero_le _⟩ rfl (fun x_16 M_16 p_16 => ?_)
    exact g_iret C dX6_turn_19 (by have e_ : sTurn S p = (1, 0, S) := (by simp [sTurn, f_11]); rw [e_]; exact ⟨p_16.2.1.P, fun q => absurd (show (1 : Nat) = 0 from q) (by decide), hK0.tr p_16.2.2⟩) (Nat.zero_le _) (Nat.zero_le _)
set_option maxRecDepth 100000 in
set_option maxHeartbeats 4000000 in
theorem c_X6_herb (Γ : hGam) (l : Launch) {M : hM} {m : Nat} {th : Int32} {S : hS} (e lm : Int32) (hP : mdP Γ M m th S) (hI : sInv S) : hMet Γ l yX6_herb cX6_herb 3 (some .int) rm_X6_herb [.ref m, .int e, .int lm] M (hpI (fun a M1 => mdP Γ M1 m (nI (sHerb S e lm).1) (sHerb S e lm).2.2 ∧ ((sHerb S e lm).1 = 0 → a = (sHerb S e lm).2.1) ∧ hKm M M1)) := by
  obtain ⟨s, ah, od, ad, G, d1, d2, hQ0⟩ := hP
  refine hMet_of (by decide +kernel) (Nat.le_of_ble_eq_true rfl) (hCat_cons rfl (hCat_cons rfl (hCat_cons rfl hCat_nil))) (fun k9 C => ?_)
  show hG _ _ _ _ _ _ _ _ [some (.ref m), some (.int e), some (.int lm)] _
  refine g_aload_n (q := 1) C dX6_herb_0 rfl (by first | exact hRef_r _ | exact hRef_o _ | exact hRef_n) rfl ?_
  refine g_iconst (q := 2) (0) C dX6_herb_1 (by decide) rfl ?_
  refine g_put (q := 5) C hcl_X6 0 (by decide) qw_709 rfl rfl rfl rfl dX6_herb_2 (by exact hQ0.1) (Nat.le_of_ble_eq_true rfl) rfl ?_
  (try rw [hU_2])
  obtain ⟨hQ, hK0⟩ := hQ0.own 0
  obtain ⟨M0, hM0⟩ : ∃ Mz, Mz = hU M m (oModel 0 (sWin S) (nI (sN S)) (some (ad 15)) (some (ad 16)) (nI (sO S)) (some (ad 17)) (some (ad 18)) (some (ad 19)) (some (ad 20)) (givn S) (some s) (some ah) (some od)) := ⟨_, rfl⟩
  refine g_eqw (M1 := M0) hM0.symm ?_
  rw [← hM0] at hQ hK0
  have hQc := hQ
  obtain ⟨mM, mA, mS, mAh, mOd, mNe, mH, ⟨mO, mO0⟩, mV⟩ := hQc
  have hn6 := hI.1
  have ho6 := hI.2.1
  have R := mV.rel hI.lt hI.1
  refine g_iload_n (q := 6) C dX6_herb_5 rfl rfl ?_
  refine g_iconst (q := 7) (1) C dX6_herb_6 (by decide) rfl ?_
  refine g_bipush (q := 9) (9) C dX6_herb_7 (by decide) rfl ?_
  refine g_callS3P (q := 12) C hy_X6_isIn (c_X6_isIn Γ l e 1 9) qw_760 ⟨Nat.le_of_ble_eq_true rfl, Nat.le_of_ble_eq_true rfl⟩ (Nat.le_of_ble_eq_true rfl) rfl dX6_herb_9 ⟨rfl, rfl⟩ ⟨Nat.zero_le _, Nat.zero_le _⟩ rfl ?_
  refine g_ifB_eq (t := 26) (q := 15) C dX6_herb_12 (by decide) rfl (fun c_12 => ?_) (fun c_12 => ?_)
  · skip
    have f_12 : inR 1 9 e = false := c_12
    refine g_aload_n (q := 27) C dX6_herb_26 rfl (by first | exact hRef_r _ | exact hRef_o _ | exact hRef_n) rfl ?_
    refine g_iconst (q := 28) (1) C dX6_herb_27 (by decide) rfl ?_
    refine g_callV1I (q := 31) C hy_X6_no (c_X6_no Γ l 1 hQ hI) qw_763 (by exact mM) rfl ⟨Nat.le_of_ble_eq_true rfl, Nat.le_of_ble_eq_true rfl⟩ (Nat.le_of_ble_eq_true rfl) rfl dX6_herb_28 ⟨rfl, rfl⟩ ⟨Nat.zero_le _, Nat.zero_le _⟩ rfl (fun x_28 M_28 p_28 => ?_)
    exact g_iret C dX6_herb_31 (by have e_ : sHerb S e lm = (1, 0, S) := (by simp [sHerb, f_12]); rw [e_]; exact ⟨p_28.2.1.P, fun q => absurd (show (1 : Nat) = 0 from q) (by decide), hK0.tr p_28.2.2⟩) (Nat.zero_le _) (Nat.zero_le _)
  · skip
    have f_12 : inR 1 9 e = true := c_12
    refine g_iload_n (q := 16) C dX6_herb_15 rfl rfl ?_
    refine g_bipush (q := 18) (20) C dX6_herb_16 (by decide) rfl ?_
    refine g_bipush (q := 20) (90) C dX6_herb_18 (by decide) rfl ?_
    refine g_callS3P (q := 23) C hy_X6_isIn (c_X6_isIn Γ l lm 20 90) qw_760 ⟨Nat.le_of_ble_eq_true rfl, Nat.le_of_ble_eq_true rfl⟩ (Nat.le_of_ble_eq_true rfl) rfl dX6_herb_20 ⟨rfl, rfl⟩ ⟨Nat.zero_le _, Nat.zero_le _⟩ rfl ?_
    refine g_ifB_ne (t := 32) (q := 26) C dX6_herb_23 (by decide) rfl (fun c_23 => ?_) (fun c_23 => ?_)
    · skip
      have f_23 : inR 20 90 lm = true := c_23
      refine g_aload_n (q := 33) C dX6_herb_32 rfl (by first | exact hRef_r _ | exact hRef_o _ | exact hRef_n) rfl ?_
      refine g_get (q := 36) C hcl_X6 2 (by decide) qw_711 rfl dX6_herb_33 (by first | exact mM | exact mS) rfl rfl ?_
      refine g_bipush (q := 38) (6) C dX6_herb_36 (by decide) rfl ?_
      refine g_icmp_ne (t := 47) (q := 41) C dX6_herb_38 (by decide) rfl (fun c_38 => ?_) (fun c_38 => ?_)
      · skip
        have f_38 : sN S < 6 := by
          rcases Nat.lt_or_ge (sN S) 6 with q | q
          · exact q
          · exact absurd (show nI (sN S) = 6 by rw [show sN S = 6 by omega]; rfl) c_38
        refine g_aload_n (q := 48) C dX6_herb_47 rfl (by first | exact hRef_r _ | exact hRef_o _ | exact hRef_n) rfl ?_
        refine g_get (q := 51) C hcl_X6 3 (by decide) qw_712 rfl dX6_herb_48 (by first | exact mM | exact mS) rfl rfl ?_
        refine g_aload_n (q := 52) C dX6_herb_51 rfl (by first | exact hRef_r _ | exact hRef_o _ | exact hRef_n) rfl ?_
        refine g_get (q := 55) C hcl_X6 2 (by decide) qw_711 rfl dX6_herb_52 (by first | exact mM | exact mS) rfl rfl ?_
        refine g_iload_n (q := 56) C dX6_herb_55 rfl rfl ?_
        refine g_iast (q := 57) C (sN S) rfl f_38 (by decide) dX6_herb_56 (mA.at6 (c := 15) (by decide) (by decide)) rfl ?_
        obtain ⟨G1, hA1, hk1, -, hKm1, hG1⟩ := mA.sti6 (c := 15) (k := sN S) (by decide) (by decide) e
        have hm1 := hk1 _ _ _ mM
        refine g_aload_n (q := 58) C dX6_herb_57 rfl (by first | exact hRef_r _ | exact hRef_o _ | exact hRef_n) rfl ?_
        refine g_get (q := 61) C hcl_X6 4 (by decide) qw_713 rfl dX6_herb_58 (by exact hm1) rfl rfl ?_
        refine g_aload_n (q := 62) C dX6_herb_61 rfl (by first | exact hRef_r _ | exact hRef_o _ | exact hRef_n) rfl ?_
        refine g_get (q := 65) C hcl_X6 2 (by decide) qw_711 rfl dX6_herb_62 (by exact hm1) rfl rfl ?_
        refine g_iload_n (q := 66) C dX6_herb_65 rfl rfl ?_
        refine g_iast (q := 67) C (sN S) rfl f_38 (by decide) dX6_herb_66 (hA1.at6 (c := 16) (by decide) (by decide)) rfl ?_
        obtain ⟨G2, hA2, hk2, -, hKm2, hG2⟩ := hA1.sti6 (c := 16) (k := sN S) (by decide) (by decide) lm
        have hm2 := hk2 _ _ _ hm1
        refine g_aload_n (q := 68) C dX6_herb_67 rfl (by first | exact hRef_r _ | exact hRef_o _ | exact hRef_n) rfl ?_
        refine g_dup (q := 69) C dX6_herb_68 rfl rfl ?_
        refine g_get (q := 72) C hcl_X6 2 (by decide) qw_711 rfl dX6_herb_69 (by exact hm2) rfl rfl ?_
        refine g_iconst (q := 73) (1) C dX6_herb_72 (by decide) rfl ?_
        refine g_iadd (q := 74) C dX6_herb_73 rfl ?_
        refine g_put (q := 77) C hcl_X6 2 (by decide) qw_711 rfl rfl rfl rfl dX6_herb_74 (by exact hm2) (Nat.le_of_ble_eq_true rfl) rfl ?_
        (try rw [hU_2])
        have hQ2 : mdQ Γ _ m 0 S s ah od ad G2 d1 d2 := ⟨hm2, hA2, hk2 _ _ _ (hk1 _ _ _ mS), hk2 _ _ _ (hk1 _ _ _ mAh), hk2 _ _ _ (hk1 _ _ _ mOd), mNe, fun i hi => by rw [hG2, if_neg (fun q => by omega), hG1, if_neg (fun q => by omega), hG2, if_neg (fun q => by omega), hG1, if_neg (fun q => by omega)]; exact mH i hi, ⟨fun i hi => by rw [hG2, if_neg (fun q => by omega), hG1, if_neg (fun q => by omega), hG2, if_neg (fun q => by omega), hG1, if_neg (fun q => by omega), hG2, if_neg (fun q => by omega), hG1, if_neg (fun q => by omega), hG2, if_neg (fun q => by omega), hG1, if_neg (fun q => by omega)]; exact mO i hi, fun i hi => by rw [hG2, if_neg (fun q => by omega), hG1, if_neg (fun q => by omega)]; exact mO0 i hi⟩, fun i hi => by simp only [hG2, hG1]; rw [if_neg (fun q => by omega), if_neg (fun q => by omega), if_neg (fun q => by omega), if_neg (fun q => by omega), if_neg (fun q => by omega), if_neg (fun q => by omega), if_neg (fun q => by omega), if_neg (fun q => by omega), if_neg (fun q => by omega), if_neg (fun q => by omega)]; exact mV i hi⟩
        have hH9 : ∀ i, i < sN S + 1 → G2 15 i = fUp (sE S) (sN S) e i ∧ G2 16 i = fUp (sL S) (sN S) lm i := by
          intro i hi
          by_cases e1 : i = sN S
          · subst e1; rw [fUp_s, fUp_s, hG2, if_neg (fun q => by omega), hG1, if_pos ⟨rfl, rfl⟩, hG2, if_pos ⟨rfl, rfl⟩]; exact ⟨rfl, rfl⟩
          · rw [fUp_n e1, fUp_n e1, hG2, if_neg (fun q => by omega), hG1, if_neg (fun q => e1 q.2), hG2, if_neg (fun q => e1 q.2), hG1, if_neg (fun q => by omega)]; exact mH i (by omega)
        have h9 := hQ2.own2 0 ((sN S + 1, fUp (sE S) (sN S) e, fUp (sL S) (sN S) lm), S.2) rfl hH9 ⟨fun i hi => by rw [hG2, if_neg (fun q => by omega), hG1, if_neg (fun q => by omega), hG2, if_neg (fun q => by omega), hG1, if_neg (fun q => by omega), hG2, if_neg (fun q => by omega), hG1, if_neg (fun q => by omega), hG2, if_neg (fun q => by omega), hG1, if_neg (fun q => by omega)]; exact mO i hi, fun i hi => by rw [hG2, if_neg (fun q => by omega), hG1, if_neg (fun q => by omega)]; exact mO0 i hi⟩ hQ2.2.2.2.2.2.2.2.2
        refine g_aload_n (q := 78) C dX6_herb_77 rfl (by first | exact hRef_r _ | exact hRef_o _ | exact hRef_n) rfl ?_
        refine g_get (q := 81) C hcl_X6 2 (by decide) qw_711 rfl dX6_herb_78 (by exact hU_s _ _ _) rfl rfl ?_
        refine g_iconst (q := 82) (1) C dX6_herb_81 (by decide) rfl ?_
        refine g_isub (q := 83) C dX6_herb_82 rfl ?_
        exact g_iret C dX6_herb_83 (by have e_ : sHerb S e lm = (0, nI (sN S), (sN S + 1, fUp (sE S) (sN S) e, fUp (sL S) (sN S) lm), S.2) := (by simp [sHerb, f_12, f_23, f_38]); rw [e_]; exact ⟨by rw [nI_1] at *; exact h9.1, fun _ => by rw [nI_1]; exact sub1 _, ((hK0.tr hKm1).tr hKm2).tr (by rw [nI_1] at *; exact h9.2)⟩) (Nat.zero_le _) (Nat.zero_le _)
      · skip
        have f_38 : ¬ sN S < 6 := fun q => absurd ((nI_eq (a := sN S) (b := 6) (by omega) (by decide)).mp c_38) (by omega)
        refine g_aload_n (q := 42) C dX6_herb_41 rfl (by first | exact hRef_r _ | exact hRef_o _ | exact hRef_n) rfl ?_
        refine g_iconst (q := 43) (2) C dX6_herb_42 (by decide) rfl ?_
        refine g_callV1I (q := 46) C hy_X6_no (c_X6_no Γ l 2 hQ hI) qw_763 (by exact mM) rfl ⟨Nat.le_of_ble_eq_true rfl, Nat.le_of_ble_eq_true rfl⟩ (Nat.le_of_ble_eq_true rfl) rfl dX6_herb_43 ⟨rfl, rfl⟩ ⟨Nat.zero_le _, Nat.zero_le _⟩ rfl (fun x_43 M_43 p_43 => ?_)
        exact g_iret C dX6_herb_46 (by have e_ : sHerb S e lm = (2, 0, S) := (by simp [sHerb, f_12, f_23, f_38]); rw [e_]; exact ⟨p_43.2.1.P, fun q => absurd (show (2 : Nat) = 0 from q) (by decide), hK0.tr p_43.2.2⟩) (Nat.zero_le _) (Nat.zero_le _)
    · skip
      have f_23 : inR 20 90 lm = false := c_23
      refine g_aload_n (q := 27) C dX6_herb_26 rfl (by first | exact hRef_r _ | exact hRef_o _ | exact hRef_n) rfl ?_
      refine g_iconst (q := 28) (1) C dX6_herb_27 (by decide) rfl ?_
      refine g_callV1I (q := 31) C hy_X6_no (c_X6_no Γ l 1 hQ hI) qw_763 (by exact mM) rfl ⟨Nat.le_of_ble_eq_true rfl, Nat.le_of_ble_eq_true rfl⟩ (Nat.le_of_ble_eq_true rfl) rfl dX6_herb_28 ⟨rfl, rfl⟩ ⟨Nat.zero_le _, Nat.zero_le _⟩ rfl (fun x_28 M_28 p_28 => ?_)
      exact g_iret C dX6_herb_31 (by have e_ : sHerb S e lm = (1, 0, S) := (by simp [sHerb, f_12, f_23]); rw [e_]; exact ⟨p_28.2.1.P, fun q => absurd (show (1 : Nat) = 0 from q) (by decide), hK0.tr p_28.2.2⟩) (Nat.zero_le _) (Nat.zero_le _)
set_option maxRecDepth 100000 in
set_option maxHeartbeats 4000000 in
theorem c_X6_order (Γ : hGam) (l : Launch) {M : hM} {m : Nat} {th : Int32} {S : hS} (h m9 w : Int32) (hP : mdP Γ M m th S) (hI : sInv S) : hMet Γ l yX6_order cX6_order 4 (some .int) rm_X6_order [.ref m, .int h, .int m9, .int w] M (hpI (fun a M1 => mdP Γ M1 m (nI (sOrd S h m9 w).1) (sOrd S h m9 w).2.2 ∧ ((sOrd S h m9 w).1 = 0 → a = (sOrd S h m9 w).2.1) ∧ hKm M M1)) := by
  obtain ⟨s, ah, od, ad, G, d1, d2, hQ0⟩ := hP
  refine hMet_of (by decide +kernel) (Nat.le_of_ble_eq_true rfl) (hCat_cons rfl (hCat_cons rfl (hCat_cons rfl (hCat_cons rfl hCat_nil)))) (fun k9 C => ?_)
  show hG _ _ _ _ _ _ _ _ [some (.ref m), some (.int h), some (.int m9), some (.int w)] _
  refine g_aload_n (q := 1) C dX6_order_0 rfl (by first | exact hRef_r _ | exact hRef_o _ | exact hRef_n) rfl ?_
  refine g_iconst (q := 2) (0) C dX6_order_1 (by decide) rfl ?_
  refine g_put (q := 5) C hcl_X6 0 (by decide) qw_709 rfl rfl rfl rfl dX6_order_2 (by exact hQ0.1) (Nat.le_of_ble_eq_true rfl) rfl ?_
  (try rw [hU_2])
  obtain ⟨hQ, hK0⟩ := hQ0.own 0
  obtain ⟨M0, hM0⟩ : ∃ Mz, Mz = hU M m (oModel 0 (sWin S) (nI (sN S)) (some (ad 15)) (some (ad 16)) (nI (sO S)) (some (ad 17)) (some (ad 18)) (some (ad 19)) (some (ad 20)) (givn S) (some s) (some ah) (some od)) := ⟨_, rfl⟩
  refine g_eqw (M1 := M0) hM0.symm ?_
  rw [← hM0] at hQ hK0
  have hQc := hQ
  obtain ⟨mM, mA, mS, mAh, mOd, mNe, mH, ⟨mO, mO0⟩, mV⟩ := hQc
  have hn6 := hI.1
  have ho6 := hI.2.1
  have R := mV.rel hI.lt hI.1
  refine g_aload_n (q := 6) C dX6_order_5 rfl (by first | exact hRef_r _ | exact hRef_o _ | exact hRef_n) rfl ?_
  refine g_iload_n (q := 7) C dX6_order_6 rfl rfl ?_
  refine g_callV1P (q := 10) C hy_X6_isHerb (c_X6_isHerb Γ l h hQ hI) qw_774 (by exact mM) rfl ⟨Nat.le_of_ble_eq_true rfl, Nat.le_of_ble_eq_true rfl⟩ (Nat.le_of_ble_eq_true rfl) rfl dX6_order_7 ⟨rfl, rfl⟩ ⟨Nat.zero_le _, Nat.zero_le _⟩ rfl ?_
  refine g_ifB_ne (t := 19) (q := 13) C dX6_order_10 (by decide) rfl (fun c_10 => ?_) (fun c_10 => ?_)
  · skip
    have f_10 : isH S h = true := c_10
    refine g_iload_n (q := 20) C dX6_order_19 rfl rfl ?_
    refine g_iconst (q := 21) (1) C dX6_order_20 (by decide) rfl ?_
    refine g_bipush (q := 23) (9) C dX6_order_21 (by decide) rfl ?_
    refine g_callS3P (q := 26) C hy_X6_isIn (c_X6_isIn Γ l m9 1 9) qw_760 ⟨Nat.le_of_ble_eq_true rfl, Nat.le_of_ble_eq_true rfl⟩ (Nat.le_of_ble_eq_true rfl) rfl dX6_order_23 ⟨rfl, rfl⟩ ⟨Nat.zero_le _, Nat.zero_le _⟩ rfl ?_
    refine g_ifB_eq (t := 39) (q := 29) C dX6_order_26 (by decide) rfl (fun c_26 => ?_) (fun c_26 => ?_)
    · skip
      have f_26 : inR 1 9 m9 = false := c_26
      refine g_aload_n (q := 40) C dX6_order_39 rfl (by first | exact hRef_r _ | exact hRef_o _ | exact hRef_n) rfl ?_
      refine g_iconst (q := 41) (2) C dX6_order_40 (by decide) rfl ?_
      refine g_callV1I (q := 44) C hy_X6_no (c_X6_no Γ l 2 hQ hI) qw_763 (by exact mM) rfl ⟨Nat.le_of_ble_eq_true rfl, Nat.le_of_ble_eq_true rfl⟩ (Nat.le_of_ble_eq_true rfl) rfl dX6_order_41 ⟨rfl, rfl⟩ ⟨Nat.zero_le _, Nat.zero_le _⟩ rfl (fun x_41 M_41 p_41 => ?_)
      exact g_iret C dX6_order_44 (by have e_ : sOrd S h m9 w = (2, 0, S) := (by simp [sOrd, f_10, f_26]); rw [e_]; exact ⟨p_41.2.1.P, fun q => absurd (show (2 : Nat) = 0 from q) (by decide), hK0.tr p_41.2.2⟩) (Nat.zero_le _) (Nat.zero_le _)
    · skip
      have f_26 : inR 1 9 m9 = true := c_26
      refine g_iload_n (q := 30) C dX6_order_29 rfl rfl ?_
      refine g_iconst (q := 31) (0) C dX6_order_30 (by decide) rfl ?_
      refine g_bipush (q := 33) (60) C dX6_order_31 (by decide) rfl ?_
      refine g_callS3P (q := 36) C hy_X6_isIn (c_X6_isIn Γ l w 0 60) qw_760 ⟨Nat.le_of_ble_eq_true rfl, Nat.le_of_ble_eq_true rfl⟩ (Nat.le_of_ble_eq_true rfl) rfl dX6_order_33 ⟨rfl, rfl⟩ ⟨Nat.zero_le _, Nat.zero_le _⟩ rfl ?_
      refine g_ifB_ne (t := 45) (q := 39) C dX6_order_36 (by decide) rfl (fun c_36 => ?_) (fun c_36 => ?_)
      · skip
        have f_36 : inR 0 60 w = true := c_36
        refine g_aload_n (q := 46) C dX6_order_45 rfl (by first | exact hRef_r _ | exact hRef_o _ | exact hRef_n) rfl ?_
        refine g_get (q := 49) C hcl_X6 5 (by decide) qw_714 rfl dX6_order_46 (by first | exact mM | exact mS) rfl rfl ?_
        refine g_bipush (q := 51) (6) C dX6_order_49 (by decide) rfl ?_
        refine g_icmp_ne (t := 60) (q := 54) C dX6_order_51 (by decide) rfl (fun c_51 => ?_) (fun c_51 => ?_)
        · skip
          have f_51 : sO S < 6 := by
            rcases Nat.lt_or_ge (sO S) 6 with q | q
            · exact q
            · exact absurd (show nI (sO S) = 6 by rw [show sO S = 6 by omega]; rfl) c_51
          obtain ⟨hj0, hjj⟩ := isH_ex f_10
          obtain ⟨hj, hjd⟩ : ∃ j, j = hNo h := ⟨_, rfl⟩
          rw [← hjd] at hj0 hjj
          subst hjj
          refine g_aload_n (q := 61) C dX6_order_60 rfl (by first | exact hRef_r _ | exact hRef_o _ | exact hRef_n) rfl ?_
          refine g_get (q := 64) C hcl_X6 6 (by decide) qw_715 rfl dX6_order_61 (by first | exact mM | exact mS) rfl rfl ?_
          refine g_aload_n (q := 65) C dX6_order_64 rfl (by first | exact hRef_r _ | exact hRef_o _ | exact hRef_n) rfl ?_
          refine g_get (q := 68) C hcl_X6 5 (by decide) qw_714 rfl dX6_order_65 (by first | exact mM | exact mS) rfl rfl ?_
          refine g_iload_n (q := 69) C dX6_order_68 rfl rfl ?_
          refine g_iast (q := 70) C (sO S) rfl f_51 (by decide) dX6_order_69 (mA.at6 (c := 17) (by decide) (by decide)) rfl ?_
          obtain ⟨G1, hA1, hk1, -, hKm1, hG1⟩ := mA.sti6 (c := 17) (k := sO S) (by decide) (by decide) (nI hj)
          have hm1 := hk1 _ _ _ mM
          refine g_aload_n (q := 71) C dX6_order_70 rfl (by first | exact hRef_r _ | exact hRef_o _ | exact hRef_n) rfl ?_
          refine g_get (q := 74) C hcl_X6 7 (by decide) qw_716 rfl dX6_order_71 (by exact hm1) rfl rfl ?_
          refine g_aload_n (q := 75) C dX6_order_74 rfl (by first | exact hRef_r _ | exact hRef_o _ | exact hRef_n) rfl ?_
          refine g_get (q := 78) C hcl_X6 5 (by decide) qw_714 rfl dX6_order_75 (by exact hm1) rfl rfl ?_
          refine g_iload_n (q := 79) C dX6_order_78 rfl rfl ?_
          refine g_iast (q := 80) C (sO S) rfl f_51 (by decide) dX6_order_79 (hA1.at6 (c := 18) (by decide) (by decide)) rfl ?_
          obtain ⟨G2, hA2, hk2, -, hKm2, hG2⟩ := hA1.sti6 (c := 18) (k := sO S) (by decide) (by decide) m9
          have hm2 := hk2 _ _ _ hm1
          refine g_aload_n (q := 81) C dX6_order_80 rfl (by first | exact hRef_r _ | exact hRef_o _ | exact hRef_n) rfl ?_
          refine g_get (q := 84) C hcl_X6 8 (by decide) qw_717 rfl dX6_order_81 (by exact hm2) rfl rfl ?_
          refine g_aload_n (q := 85) C dX6_order_84 rfl (by first | exact hRef_r _ | exact hRef_o _ | exact hRef_n) rfl ?_
          refine g_get (q := 88) C hcl_X6 5 (by decide) qw_714 rfl dX6_order_85 (by exact hm2) rfl rfl ?_
          refine g_iload_n (q := 89) C dX6_order_88 rfl rfl ?_
          refine g_iast (q := 90) C (sO S) rfl f_51 (by decide) dX6_order_89 (hA2.at6 (c := 19) (by decide) (by decide)) rfl ?_
          obtain ⟨G3, hA3, hk3, -, hKm3, hG3⟩ := hA2.sti6 (c := 19) (k := sO S) (by decide) (by decide) w
          have hm3 := hk3 _ _ _ hm2
          refine g_aload_n (q := 91) C dX6_order_90 rfl (by first | exact hRef_r _ | exact hRef_o _ | exact hRef_n) rfl ?_
          refine g_dup (q := 92) C dX6_order_91 rfl rfl ?_
          refine g_get (q := 95) C hcl_X6 5 (by decide) qw_714 rfl dX6_order_92 (by exact hm3) rfl rfl ?_
          refine g_iconst (q := 96) (1) C dX6_order_95 (by decide) rfl ?_
          refine g_iadd (q := 97) C dX6_order_96 rfl ?_
          refine g_put (q := 100) C hcl_X6 5 (by decide) qw_714 rfl rfl rfl rfl dX6_order_97 (by exact hm3) (Nat.le_of_ble_eq_true rfl) rfl ?_
          (try rw [hU_2])
          have hH3 : ∀ i, i < sN S → G3 15 i = sE S i ∧ G3 16 i = sL S i := fun i hi => by simp only [hG3, hG2, hG1]; rw [if_neg (fun q => by omega), if_neg (fun q => by omega), if_neg (fun q => by omega), if_neg (fun q => by omega), if_neg (fun q => by omega), if_neg (fun q => by omega)]; exact mH i hi
          have hV3 : stV G3 0 (sB S) := fun i hi => by simp only [hG3, hG2, hG1]; rw [if_neg (fun q => by omega), if_neg (fun q => by omega), if_neg (fun q => by omega), if_neg (fun q => by omega), if_neg (fun q => by omega), if_neg (fun q => by omega), if_neg (fun q => by omega), if_neg (fun q => by omega), if_neg (fun q => by omega), if_neg (fun q => by omega), if_neg (fun q => by omega), if_neg (fun q => by omega), if_neg (fun q => by omega), if_neg (fun q => by omega), if_neg (fun q => by omega)]; exact mV i hi
          have hO3 : (∀ i, i < sO S → G3 17 i = nI (sW S i) ∧ G3 18 i = sM S i ∧ G3 19 i = sD S i ∧ G3 20 i = sG S i) ∧ ∀ i, sO S ≤ i → G3 20 i = 0 := ⟨fun i hi => by simp only [hG3, hG2, hG1]; rw [if_neg (fun q => by omega), if_neg (fun q => by omega), if_neg (fun q => by omega), if_neg (fun q => by omega), if_neg (fun q => by omega), if_neg (fun q => by omega), if_neg (fun q => by omega), if_neg (fun q => by omega), if_neg (fun q => by omega), if_neg (fun q => by omega), if_neg (fun q => by omega), if_neg (fun q => by omega)]; exact mO i hi, fun i hi => by simp only [hG3, hG2, hG1]; rw [if_neg (fun q => by omega), if_neg (fun q => by omega), if_neg (fun q => by omega)]; exact mO0 i hi⟩
          have hQ3 : mdQ Γ _ m 0 S s ah od ad G3 d1 d2 := ⟨hm3, hA3, hk3 _ _ _ (hk2 _ _ _ (hk1 _ _ _ mS)), hk3 _ _ _ (hk2 _ _ _ (hk1 _ _ _ mAh)), hk3 _ _ _ (hk2 _ _ _ (hk1 _ _ _ mOd)), mNe, hH3, hO3, hV3⟩
          have hO4 : (∀ i, i < sO S + 1 → G3 17 i = nI (fUp (sW S) (sO S) hj i) ∧ G3 18 i = fUp (sM S) (sO S) m9 i ∧ G3 19 i = fUp (sD S) (sO S) w i ∧ G3 20 i = fUp (sG S) (sO S) 0 i) ∧ ∀ i, sO S + 1 ≤ i → G3 20 i = 0 := by
            refine ⟨fun i hi => ?_, fun i hi => hO3.2 i (by omega)⟩
            by_cases e1 : i = sO S
            · subst e1; rw [fUp_s, fUp_s, fUp_s, fUp_s]; refine ⟨?_, ?_, ?_, hO3.2 _ (Nat.le_refl _)⟩
              · simp [hG3, hG2, hG1]
              · simp [hG3, hG2, hG1]
              · simp [hG3, hG2, hG1]
            · rw [fUp_n e1, fUp_n e1, fUp_n e1, fUp_n e1]; exact hO3.1 i (by omega)
          have h9 := hQ3.own2 0 (S.1, (sO S + 1, fUp (sW S) (sO S) hj, fUp (sM S) (sO S) m9, fUp (sD S) (sO S) w, fUp (sG S) (sO S) 0), S.2.2) rfl hH3 hO4 hV3
          rw [givn_o 0] at h9
          refine g_aload_n (q := 101) C dX6_order_100 rfl (by first | exact hRef_r _ | exact hRef_o _ | exact hRef_n) rfl ?_
          refine g_get (q := 104) C hcl_X6 5 (by decide) qw_714 rfl dX6_order_101 (by exact hU_s _ _ _) rfl rfl ?_
          refine g_iconst (q := 105) (1) C dX6_order_104 (by decide) rfl ?_
          refine g_isub (q := 106) C dX6_order_105 rfl ?_
          exact g_iret C dX6_order_106 (by have e_ : sOrd S (nI hj) m9 w = (0, nI (sO S), S.1, (sO S + 1, fUp (sW S) (sO S) hj, fUp (sM S) (sO S) m9, fUp (sD S) (sO S) w, fUp (sG S) (sO S) 0), S.2.2) := (by simp [sOrd, f_10, f_26, f_36, f_51, ← hjd]); rw [e_]; exact ⟨by rw [nI_1] at *; exact h9.1, fun _ => by rw [nI_1]; exact sub1 _, (((hK0.tr hKm1).tr hKm2).tr hKm3).tr (by rw [nI_1] at *; exact h9.2)⟩) (Nat.zero_le _) (Nat.zero_le _)
        · skip
          have f_51 : ¬ sO S < 6 := fun q => absurd ((nI_eq (a := sO S) (b := 6) (by omega) (by decide)).mp c_51) (by omega)
          refine g_aload_n (q := 55) C dX6_order_54 rfl (by first | exact hRef_r _ | exact hRef_o _ | exact hRef_n) rfl ?_
          refine g_iconst (q := 56) (3) C dX6_order_55 (by decide) rfl ?_
          refine g_callV1I (q := 59) C hy_X6_no (c_X6_no Γ l 3 hQ hI) qw_763 (by exact mM) rfl ⟨Nat.le_of_ble_eq_true rfl, Nat.le_of_ble_eq_true rfl⟩ (Nat.le_of_ble_eq_true rfl) rfl dX6_order_56 ⟨rfl, rfl⟩ ⟨Nat.zero_le _, Nat.zero_le _⟩ rfl (fun x_56 M_56 p_56 => ?_)
          exact g_iret C dX6_order_59 (by have e_ : sOrd S h m9 w = (3, 0, S) := (by simp [sOrd, f_10, f_26, f_36, f_51]); rw [e_]; exact ⟨p_56.2.1.P, fun q => absurd (show (3 : Nat) = 0 from q) (by decide), hK0.tr p_56.2.2⟩) (Nat.zero_le _) (Nat.zero_le _)
      · skip
        have f_36 : inR 0 60 w = false := c_36
        refine g_aload_n (q := 40) C dX6_order_39 rfl (by first | exact hRef_r _ | exact hRef_o _ | exact hRef_n) rfl ?_
        refine g_iconst (q := 41) (2) C dX6_order_40 (by decide) rfl ?_
        refine g_callV1I (q := 44) C hy_X6_no (c_X6_no Γ l 2 hQ hI) qw_763 (by exact mM) rfl ⟨Nat.le_of_ble_eq_true rfl, Nat.le_of_ble_eq_true rfl⟩ (Nat.le_of_ble_eq_true rfl) rfl dX6_order_41 ⟨rfl, rfl⟩ ⟨Nat.zero_le _, Nat.zero_le _⟩ rfl (fun x_41 M_41 p_41 => ?_)
        exact g_iret C dX6_order_44 (by have e_ : sOrd S h m9 w = (2, 0, S) := (by simp [sOrd, f_10, f_26, f_36]); rw [e_]; exact ⟨p_41.2.1.P, fun q => absurd (show (2 : Nat) = 0 from q) (by decide), hK0.tr p_41.2.2⟩) (Nat.zero_le _) (Nat.zero_le _)
  · skip
    have f_10 : isH S h = false := c_10
    refine g_aload_n (q := 14) C dX6_order_13 rfl (by first | exact hRef_r _ | exact hRef_o _ | exact hRef_n) rfl ?_
    refine g_iconst (q := 15) (1) C dX6_order_14 (by decide) rfl ?_
    refine g_callV1I (q := 18) C hy_X6_no (c_X6_no Γ l 1 hQ hI) qw_763 (by exact mM) rfl ⟨Nat.le_of_ble_eq_true rfl, Nat.le_of_ble_eq_true rfl⟩ (Nat.le_of_ble_eq_true rfl) rfl dX6_order_15 ⟨rfl, rfl⟩ ⟨Nat.zero_le _, Nat.zero_le _⟩ rfl (fun x_15 M_15 p_15 => ?_)
    exact g_iret C dX6_order_18 (by have e_ : sOrd S h m9 w = (1, 0, S) := (by simp [sOrd, f_10]); rw [e_]; exact ⟨p_15.2.1.P, fun q => absurd (show (1 : Nat) = 0 from q) (by decide), hK0.tr p_15.2.2⟩) (Nat.zero_le _) (Nat.zero_le _)
