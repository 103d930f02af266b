theorem tfn : ¬ (true = false) := by decide
theorem sAdv_ok {S : hS} {d dmp : Int32} {dn : Nat} (h1 : inR 1 30 d = true) (h2 : inR 0 9 dmp = true) (h3 : hNo d = dn) : sAdv S d dmp = (0, (adR (scor (vDays (sE S) (sL S) (sWin S) dmp (sB S) dn)) (fun s => scor (vDays (sE S) (sL S) (sWin S) dmp (vTurn s (sB S)) dn)) 5).1) := by
  subst h3
  unfold sAdv sAft
  rw [h1, h2, if_neg tfn, if_neg tfn]
theorem fst9 {α β : Type} {p : α × β} {a : α} {b : β} (h : p = (a, b)) : p.1 = a ∧ p.2 = b := by subst h; exact ⟨rfl, rfl⟩
theorem sAdv_1 {S : hS} {d dmp : Int32} (h1 : inR 1 30 d = true) (h2 : inR 0 9 dmp = true) : (sAdv S d dmp).1 = 0 := (fst9 (sAdv_ok h1 h2 rfl)).1
theorem sAdv_2 {S : hS} {d dmp : Int32} {dn : Nat} (h1 : inR 1 30 d = true) (h2 : inR 0 9 dmp = true) (h3 : hNo d = dn) : (sAdv S d dmp).2 = (adR (scor (vDays (sE S) (sL S) (sWin S) dmp (sB S) dn)) (fun s => scor (vDays (sE S) (sL S) (sWin S) dmp (vTurn s (sB S)) dn)) 5).1 := (fst9 (sAdv_ok h1 h2 h3)).2
set_option maxRecDepth 100000 in
set_option maxHeartbeats 4000000 in
theorem c_X6_advise (Γ : hGam) (l : Launch) {M : hM} {m : Nat} {th : Int32} {S : hS} (d dmp : Int32) (hP : mdP Γ M m th S) (hI : sInv S) : hMet Γ l yX6_advise cX6_advise 3 (some .int) rm_X6_advise [.ref m, .int d, .int dmp] M (hpI (fun a M1 => mdP Γ M1 m (nI (sAdv S d dmp).1) S ∧ ((sAdv S d dmp).1 = 0 → a = (sAdv S d dmp).2) ∧ hKm M M1)) := by
  obtain ⟨s, ah, od, ad, G, d1, d2, hQ0⟩ := hP
  refine hMet_of (by decide +kernel) (Nat.le_of_ble_eq_true rfl) (hCat_cons rfl (hCat_cons rfl (hCat_cons rfl hCat_nil))) (fun k9 C => ?_)
  show hG _ _ _ _ _ _ _ _ [some (.ref m), some (.int d), some (.int dmp)] _
  refine g_aload_n (q := 1) C dX6_advise_0 rfl (by first | exact hRef_r _ | exact hRef_o _ | exact hRef_n) rfl ?_
  refine g_iconst (q := 2) (0) C dX6_advise_1 (by decide) rfl ?_
  refine g_put (q := 5) C hcl_X6 0 (by decide) qw_709 rfl rfl rfl rfl dX6_advise_2 (by exact hQ0.1) (Nat.le_of_ble_eq_true rfl) rfl ?_
  (try rw [hU_2])
  obtain ⟨hQ, hK0⟩ := hQ0.own 0
  obtain ⟨M0, hM0⟩ : ∃ Mz, Mz = hU M m (oModel 0 (sWin S) (nI (sN S)) (some (ad 15)) (some (ad 16)) (nI (sO S)) (some (ad 17)) (some (ad 18)) (some (ad 19)) (some (ad 20)) (givn S) (some s) (some ah) (some od)) := ⟨_, rfl⟩
  refine g_eqw (M1 := M0) hM0.symm ?_
  rw [← hM0] at hQ hK0
  have hQc := hQ
  obtain ⟨mM, mA, mS, mAh, mOd, mNe, mH, ⟨mO, mO0⟩, mV⟩ := hQc
  have hn6 := hI.1
  have ho6 := hI.2.1
  have R := mV.rel hI.lt hI.1
  refine g_iload_n (q := 6) C dX6_advise_5 rfl rfl ?_
  refine g_iconst (q := 7) (1) C dX6_advise_6 (by decide) rfl ?_
  refine g_bipush (q := 9) (30) C dX6_advise_7 (by decide) rfl ?_
  refine g_callS3P (q := 12) C hy_X6_isIn (c_X6_isIn Γ l d 1 30) qw_760 ⟨Nat.le_of_ble_eq_true rfl, Nat.le_of_ble_eq_true rfl⟩ (Nat.le_of_ble_eq_true rfl) rfl dX6_advise_9 ⟨rfl, rfl⟩ ⟨Nat.zero_le _, Nat.zero_le _⟩ rfl ?_
  refine g_ifB_eq (t := 34) (q := 15) C dX6_advise_12 (by decide) rfl (fun c_12 => ?_) (fun c_12 => ?_)
  · skip
    have f_12 : inR 1 30 d = false := c_12
    refine g_aload_n (q := 35) C dX6_advise_34 rfl (by first | exact hRef_r _ | exact hRef_o _ | exact hRef_n) rfl ?_
    refine g_iconst (q := 36) (1) C dX6_advise_35 (by decide) rfl ?_
    refine g_callV1I (q := 39) C hy_X6_no (c_X6_no Γ l 1 hQ hI) qw_763 (by exact mM) rfl ⟨Nat.le_of_ble_eq_true rfl, Nat.le_of_ble_eq_true rfl⟩ (Nat.le_of_ble_eq_true rfl) rfl dX6_advise_36 ⟨rfl, rfl⟩ ⟨Nat.zero_le _, Nat.zero_le _⟩ rfl (fun x_36 M_36 p_36 => ?_)
    exact g_iret C dX6_advise_39 (by have e_ : sAdv S d dmp = (1, 0) := (by unfold sAdv; rw [if_pos f_12]); rw [e_]; exact ⟨p_36.2.1.P, fun q => absurd (show (1 : Nat) = 0 from q) (by decide), hK0.tr p_36.2.2⟩) (Nat.zero_le _) (Nat.zero_le _)
  · skip
    have f_12 : inR 1 30 d = true := c_12
    refine g_iload_n (q := 16) C dX6_advise_15 rfl rfl ?_
    refine g_iconst (q := 17) (0) C dX6_advise_16 (by decide) rfl ?_
    refine g_bipush (q := 19) (9) C dX6_advise_17 (by decide) rfl ?_
    refine g_callS3P (q := 22) C hy_X6_isIn (c_X6_isIn Γ l dmp 0 9) qw_760 ⟨Nat.le_of_ble_eq_true rfl, Nat.le_of_ble_eq_true rfl⟩ (Nat.le_of_ble_eq_true rfl) rfl dX6_advise_19 ⟨rfl, rfl⟩ ⟨Nat.zero_le _, Nat.zero_le _⟩ rfl ?_
    refine g_ifB_eq (t := 34) (q := 25) C dX6_advise_22 (by decide) rfl (fun c_22 => ?_) (fun c_22 => ?_)
    · skip
      have f_22 : inR 0 9 dmp = false := c_22
      refine g_aload_n (q := 35) C dX6_advise_34 rfl (by first | exact hRef_r _ | exact hRef_o _ | exact hRef_n) rfl ?_
      refine g_iconst (q := 36) (1) C dX6_advise_35 (by decide) rfl ?_
      refine g_callV1I (q := 39) C hy_X6_no (c_X6_no Γ l 1 hQ hI) qw_763 (by exact mM) rfl ⟨Nat.le_of_ble_eq_true rfl, Nat.le_of_ble_eq_true rfl⟩ (Nat.le_of_ble_eq_true rfl) rfl dX6_advise_36 ⟨rfl, rfl⟩ ⟨Nat.zero_le _, Nat.zero_le _⟩ rfl (fun x_36 M_36 p_36 => ?_)
      exact g_iret C dX6_advise_39 (by have e_ : sAdv S d dmp = (1, 0) := (by unfold sAdv; rw [f_12, if_neg tfn, if_pos f_22]); rw [e_]; exact ⟨p_36.2.1.P, fun q => absurd (show (1 : Nat) = 0 from q) (by decide), hK0.tr p_36.2.2⟩) (Nat.zero_le _) (Nat.zero_le _)
    · skip
      have f_22 : inR 0 9 dmp = true := c_22
      obtain ⟨dn, hdn, rfl⟩ := inR_nI f_12 (by decide) (N := 30) rfl
      refine g_aload_n (q := 26) C dX6_advise_25 rfl (by first | exact hRef_r _ | exact hRef_o _ | exact hRef_n) rfl ?_
      refine g_iload_n (q := 27) C dX6_advise_26 rfl rfl ?_
      refine g_iload_n (q := 28) C dX6_advise_27 rfl rfl ?_
      refine g_callV2I (q := 31) C hy_X6_bestString (c_X6_bestString Γ l dmp hQ hI (show dn < 1000 by omega)) qw_927 (by exact mM) rfl ⟨Nat.le_of_ble_eq_true rfl, Nat.le_of_ble_eq_true rfl⟩ (Nat.le_of_ble_eq_true rfl) rfl dX6_advise_28 ⟨rfl, rfl⟩ ⟨Nat.zero_le _, Nat.zero_le _⟩ rfl (fun x_28 M_28 p_28 => ?_)
      obtain ⟨u1, ⟨G2, e1, e2, hQ2⟩, hK2⟩ := p_28
      refine g_goto (t := 39) C dX6_advise_31 (by decide) ?_
      exact g_iret C dX6_advise_39 (⟨by rw [sAdv_1 f_12 f_22]; exact hQ2.P, fun _ => by rw [sAdv_2 f_12 f_22 (show hNo (nI dn) = dn from nI_clamp (by omega))]; exact u1, hK0.tr hK2⟩) (Nat.zero_le _) (Nat.zero_le _)
