set_option maxRecDepth 100000 in
set_option maxHeartbeats 4000000 in
theorem c_X6_until (Γ : hGam) (l : Launch) {M : hM} {m : Nat} {th : Int32} {S : hS} (p q w dmp : Int32) (hP : mdP Γ M m th S) (hI : sInv S) : hMet Γ l yX6_until cX6_until 5 (some .int) rm_X6_until [.ref m, .int p, .int q, .int w, .int dmp] M (hpI (fun a M1 => mdP Γ M1 m (nI (sUntil S p q w dmp).1) S ∧ ((sUntil S p q w dmp).1 = 0 → a = (sUntil S p q w dmp).2) ∧ hKm M M1)) := by
  obtain ⟨s, ah, od, ad, G, d1, d2, hQ0⟩ := hP
  refine hMet_of (by decide +kernel) (Nat.le_of_ble_eq_true rfl) (hCat_cons rfl (hCat_cons rfl (hCat_cons rfl (hCat_cons rfl (hCat_cons rfl hCat_nil))))) (fun k9 C => ?_)
  show hG _ _ _ _ _ _ _ _ [some (.ref m), some (.int p), some (.int q), some (.int w), some (.int dmp)] _
  refine g_aload_n (q := 1) C dX6_until_0 rfl (by first | exact hRef_r _ | exact hRef_o _ | exact hRef_n) rfl ?_
  refine g_iconst (q := 2) (0) C dX6_until_1 (by decide) rfl ?_
  refine g_put (q := 5) C hcl_X6 0 (by decide) qw_709 rfl rfl rfl rfl dX6_until_2 (by exact hQ0.1) (Nat.le_of_ble_eq_true rfl) rfl ?_
  (try rw [hU_2])
  obtain ⟨hQ, hK0⟩ := hQ0.own 0
  obtain ⟨M0, hM0⟩ : ∃ Mz, Mz = hU M m (oModel 0 (sWin S) (nI (sN S)) (some (ad 15)) (some (ad 16)) (nI (sO S)) (some (ad 17)) (some (ad 18)) (some (ad 19)) (some (ad 20)) (givn S) (some s) (some ah) (some od)) := ⟨_, rfl⟩
  refine g_eqw (M1 := M0) hM0.symm ?_
  rw [← hM0] at hQ hK0
  have hQc := hQ
  obtain ⟨mM, mA, mS, mAh, mOd, mNe, mH, ⟨mO, mO0⟩, mV⟩ := hQc
  have hn6 := hI.1
  have ho6 := hI.2.1
  have R := mV.rel hI.lt hI.1
  refine g_iload_n (q := 6) C dX6_until_5 rfl rfl ?_
  refine g_iload_n (q := 7) C dX6_until_6 rfl rfl ?_
  refine g_callS2P (q := 10) C hy_X6_isHook (c_X6_isHook Γ l p q) qw_771 ⟨Nat.le_of_ble_eq_true rfl, Nat.le_of_ble_eq_true rfl⟩ (Nat.le_of_ble_eq_true rfl) rfl dX6_until_7 ⟨rfl, rfl⟩ ⟨Nat.zero_le _, Nat.zero_le _⟩ rfl ?_
  refine g_ifB_ne (t := 19) (q := 13) C dX6_until_10 (by decide) rfl (fun c_10 => ?_) (fun c_10 => ?_)
  · skip
    have f_10 : isHk p q = true := c_10
    refine g_iload_n (q := 20) C dX6_until_19 rfl rfl ?_
    refine g_iconst (q := 21) (0) C dX6_until_20 (by decide) rfl ?_
    refine g_bipush (q := 23) (100) C dX6_until_21 (by decide) rfl ?_
    refine g_callS3P (q := 26) C hy_X6_isIn (c_X6_isIn Γ l w 0 100) qw_760 ⟨Nat.le_of_ble_eq_true rfl, Nat.le_of_ble_eq_true rfl⟩ (Nat.le_of_ble_eq_true rfl) rfl dX6_until_23 ⟨rfl, rfl⟩ ⟨Nat.zero_le _, Nat.zero_le _⟩ rfl ?_
    refine g_ifB_eq (t := 56) (q := 29) C dX6_until_26 (by decide) rfl (fun c_26 => ?_) (fun c_26 => ?_)
    · skip
      have f_26 : inR 0 100 w = false := c_26
      refine g_aload_n (q := 57) C dX6_until_56 rfl (by first | exact hRef_r _ | exact hRef_o _ | exact hRef_n) rfl ?_
      refine g_iconst (q := 58) (2) C dX6_until_57 (by decide) rfl ?_
      refine g_callV1I (q := 61) C hy_X6_no (c_X6_no Γ l 2 hQ hI) qw_763 (by exact mM) rfl ⟨Nat.le_of_ble_eq_true rfl, Nat.le_of_ble_eq_true rfl⟩ (Nat.le_of_ble_eq_true rfl) rfl dX6_until_58 ⟨rfl, rfl⟩ ⟨Nat.zero_le _, Nat.zero_le _⟩ rfl (fun x_58 M_58 p_58 => ?_)
      exact g_iret C dX6_until_61 (by have e_ : sUntil S p q w dmp = (2, 0) := (by simp [sUntil, f_10, f_26]); rw [e_]; exact ⟨p_58.2.1.P, fun q => absurd (show (2 : Nat) = 0 from q) (by decide), hK0.tr p_58.2.2⟩) (Nat.zero_le _) (Nat.zero_le _)
    · skip
      have f_26 : inR 0 100 w = true := c_26
      refine g_iload (q := 31) C dX6_until_29 rfl rfl ?_
      refine g_iconst (q := 32) (0) C dX6_until_31 (by decide) rfl ?_
      refine g_bipush (q := 34) (9) C dX6_until_32 (by decide) rfl ?_
      refine g_callS3P (q := 37) C hy_X6_isIn (c_X6_isIn Γ l dmp 0 9) qw_760 ⟨Nat.le_of_ble_eq_true rfl, Nat.le_of_ble_eq_true rfl⟩ (Nat.le_of_ble_eq_true rfl) rfl dX6_until_34 ⟨rfl, rfl⟩ ⟨Nat.zero_le _, Nat.zero_le _⟩ rfl ?_
      refine g_ifB_eq (t := 56) (q := 40) C dX6_until_37 (by decide) rfl (fun c_37 => ?_) (fun c_37 => ?_)
      · skip
        have f_37 : inR 0 9 dmp = false := c_37
        refine g_aload_n (q := 57) C dX6_until_56 rfl (by first | exact hRef_r _ | exact hRef_o _ | exact hRef_n) rfl ?_
        refine g_iconst (q := 58) (2) C dX6_until_57 (by decide) rfl ?_
        refine g_callV1I (q := 61) C hy_X6_no (c_X6_no Γ l 2 hQ hI) qw_763 (by exact mM) rfl ⟨Nat.le_of_ble_eq_true rfl, Nat.le_of_ble_eq_true rfl⟩ (Nat.le_of_ble_eq_true rfl) rfl dX6_until_58 ⟨rfl, rfl⟩ ⟨Nat.zero_le _, Nat.zero_le _⟩ rfl (fun x_58 M_58 p_58 => ?_)
        exact g_iret C dX6_until_61 (by have e_ : sUntil S p q w dmp = (2, 0) := (by simp [sUntil, f_10, f_26, f_37]); rw [e_]; exact ⟨p_58.2.1.P, fun q => absurd (show (2 : Nat) = 0 from q) (by decide), hK0.tr p_58.2.2⟩) (Nat.zero_le _) (Nat.zero_le _)
      · skip
        have f_37 : inR 0 9 dmp = true := c_37
        obtain ⟨a, b, ha, hb, rfl, rfl, hix⟩ := isHk_nI f_10
        have hi : a * 8 + b < 40 := by omega
        refine g_aload_n (q := 41) C dX6_until_40 rfl (by first | exact hRef_r _ | exact hRef_o _ | exact hRef_n) rfl ?_
        refine g_bipush (q := 43) (8) C dX6_until_41 (by decide) rfl ?_
        refine g_iload_n (q := 44) C dX6_until_43 rfl rfl ?_
        refine g_imul (q := 45) C dX6_until_44 rfl ?_
        refine g_iload_n (q := 46) C dX6_until_45 rfl rfl ?_
        refine g_iadd (q := 47) C dX6_until_46 rfl ?_
        rw [ix_md]
        refine g_iload_n (q := 48) C dX6_until_47 rfl rfl ?_
        refine g_iload (q := 50) C dX6_until_48 rfl rfl ?_
        refine g_callV3I (q := 53) C hy_X6_untilDry (c_X6_untilDry Γ l w dmp hQ hI hi) qw_915 (by exact mM) rfl ⟨Nat.le_of_ble_eq_true rfl, Nat.le_of_ble_eq_true rfl⟩ (Nat.le_of_ble_eq_true rfl) rfl dX6_until_50 ⟨rfl, rfl⟩ ⟨Nat.zero_le _, Nat.zero_le _⟩ rfl (fun x_50 M_50 p_50 => ?_)
        obtain ⟨u1, ⟨G2, e1, e2, hQ2⟩, hK2⟩ := p_50
        refine g_goto (t := 61) C dX6_until_53 (by decide) ?_
        exact g_iret C dX6_until_61 (by rw [u1]; by_cases ht : bTak (sB S (a * 8 + b)) = true; (have e_ : sUntil S (nI a) (nI b) w dmp = (0, fndU (fun t => decide (bWet (vDays (sE S) (sL S) (sWin S) dmp (sB S) t (a * 8 + b)) ≤ w)) 91 0) := (by simp [sUntil, f_10, f_26, f_37, hix, ht]); rw [e_, if_pos ht]; exact ⟨hQ2.P, fun _ => rfl, hK0.tr hK2⟩); (have ht2 : bTak (sB S (a * 8 + b)) = false := (Bool.eq_false_iff.mpr ht); have e_ : sUntil S (nI a) (nI b) w dmp = (0, -1) := (by simp [sUntil, f_10, f_26, f_37, hix, ht2]); rw [e_, if_neg ht]; exact ⟨hQ2.P, fun _ => rfl, hK0.tr hK2⟩)) (Nat.zero_le _) (Nat.zero_le _)
  · skip
    have f_10 : isHk p q = false := c_10
    refine g_aload_n (q := 14) C dX6_until_13 rfl (by first | exact hRef_r _ | exact hRef_o _ | exact hRef_n) rfl ?_
    refine g_iconst (q := 15) (1) C dX6_until_14 (by decide) rfl ?_
    refine g_callV1I (q := 18) C hy_X6_no (c_X6_no Γ l 1 hQ hI) qw_763 (by exact mM) rfl ⟨Nat.le_of_ble_eq_true rfl, Nat.le_of_ble_eq_true rfl⟩ (Nat.le_of_ble_eq_true rfl) rfl dX6_until_15 ⟨rfl, rfl⟩ ⟨Nat.zero_le _, Nat.zero_le _⟩ rfl (fun x_15 M_15 p_15 => ?_)
    exact g_iret C dX6_until_18 (by have e_ : sUntil S p q w dmp = (1, 0) := (by simp [sUntil, f_10]); rw [e_]; exact ⟨p_15.2.1.P, fun q => absurd (show (1 : Nat) = 0 from q) (by decide), hK0.tr p_15.2.2⟩) (Nat.zero_le _) (Nat.zero_le _)
