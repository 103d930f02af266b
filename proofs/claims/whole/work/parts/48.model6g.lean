set_option maxRecDepth 100000 in
set_option maxHeartbeats 4000000 in
theorem c_X6_bestString (Γ : hGam) (l : Launch) {M : hM} {m : Nat} {th : Int32} {S : hS} {s ah od : Nat} {ad : Nat → Nat} {G : Nat → Nat → Int32} {d1 d2 : Int32} {dn : Nat} (dmp : Int32) (hQ : mdQ Γ M m th S s ah od ad G d1 d2) (hI : sInv S) (hdn : dn < 1000) : hMet Γ l yX6_bestString cX6_bestString 7 (some .int) rm_X6_bestString [.ref m, .int (nI dn), .int dmp] M (hpI (fun a M1 => a = (adR (scor (vDays (sE S) (sL S) (sWin S) dmp (sB S) dn)) (fun s => scor (vDays (sE S) (sL S) (sWin S) dmp (vTurn s (sB S)) dn)) 5).1 ∧ (∃ G1 e1 e2, mdQ Γ M1 m th S s ah od ad G1 e1 e2) ∧ hKm M M1)) := by
  have hQc := hQ
  obtain ⟨mM, mA, mS, mAh, mOd, mNe, mH, ⟨mO, mO0⟩, mV⟩ := hQc
  have hn6 := hI.1
  have ho6 := hI.2.1
  have R := mV.rel hI.lt hI.1
  refine hMet_of (by decide +kernel) (Nat.le_of_ble_eq_true rfl) (hCat_cons rfl (hCat_cons rfl (hCat_cons rfl hCat_nil))) (fun k9 C => ?_)
  show hG _ _ _ _ _ _ _ _ [some (.ref m), some (.int (nI dn)), some (.int dmp), none, none, none, none] _
  refine g_iconst (q := 1) (-1) C dX6_bestString_0 (by decide) rfl ?_
  refine g_istore3 (q := 2) C dX6_bestString_1 (by first | rfl | exact hNw_rf _) rfl ?_
  refine g_aload_n (q := 3) C dX6_bestString_2 rfl (by first | exact hRef_r _ | exact hRef_o _ | exact hRef_n) rfl ?_
  refine g_iconst (q := 4) (-1) C dX6_bestString_3 (by decide) rfl ?_
  refine g_iload_n (q := 5) C dX6_bestString_4 rfl rfl ?_
  refine g_iload_n (q := 6) C dX6_bestString_5 rfl rfl ?_
  refine g_callV3I (q := 9) C hy_X6_badBehind (c_X6_badBehind_n Γ l dmp hQ hI hdn) qw_931 (by exact mM) rfl ⟨Nat.le_of_ble_eq_true rfl, Nat.le_of_ble_eq_true rfl⟩ (Nat.le_of_ble_eq_true rfl) rfl dX6_bestString_6 ⟨rfl, rfl⟩ ⟨Nat.zero_le _, Nat.zero_le _⟩ rfl (fun x_6 M_6 p_6 => ?_)
  obtain ⟨hs2, ⟨Ga, ea, eb, hQ2⟩, hK2⟩ := p_6
  refine g_istore4 (q := 11) C dX6_bestString_9 (by first | rfl | exact hNw_rf _) rfl ?_
  refine g_iconst (q := 12) (0) C dX6_bestString_11 (by decide) rfl ?_
  refine g_istore5 (q := 14) C dX6_bestString_12 (by first | rfl | exact hNw_rf _) rfl ?_
  have h0 : ((-1 : Int32), x_6) = adR (scor (vDays (sE S) (sL S) (sWin S) dmp (sB S) dn)) (fun s => scor (vDays (sE S) (sL S) (sWin S) dmp (vTurn s (sB S)) dn)) 0 := by rw [hs2]; rfl
  refine h_loopU (P := fun i => ∀ (M3 : hM) (G3 : Nat → Nat → Int32) (e1 e2 be ls : Int32) (o6 : Option Value), mdQ Γ M3 m th S s ah od ad G3 e1 e2 → hKm M M3 → (be, ls) = adR (scor (vDays (sE S) (sL S) (sWin S) dmp (sB S) dn)) (fun s => scor (vDays (sE S) (sL S) (sWin S) dmp (vTurn s (sB S)) dn)) i → hG Γ k9 _ _ M3 0 0 14 [some (.ref m), some (.int (nI dn)), some (.int dmp), some (.int be), some (.int ls), some (.int (nI i)), o6] []) (N := 5) (fun i hi ih => ?_) 0 (Nat.zero_le _) M_6 _ _ _ (-1) _ none hQ2 hK2 h0
  intro M3 G3 e1 e2 be ls o6 hQ3 hK3 hb5
  refine g_iload (q := 16) C dX6_bestString_14 rfl rfl ?_
  refine g_iconst (q := 17) (5) C dX6_bestString_16 (by decide) rfl ?_
  refine g_icmp_ge (t := 53) (q := 20) C dX6_bestString_17 (by decide) rfl (fun c_17 => ?_) (fun c_17 => ?_)
  · skip
    have hN := nI_ge_eq hi (by decide) c_17
    subst hN
    refine g_iload_n (q := 54) C dX6_bestString_53 rfl rfl ?_
    exact g_iret C dX6_bestString_54 (⟨by rw [← hb5], ⟨_, _, _, hQ3⟩, hK3⟩) (Nat.zero_le _) (Nat.zero_le _)
  · skip
    have hlt := nI_nge_lt hi (by decide) c_17
    refine g_aload_n (q := 21) C dX6_bestString_20 rfl (by first | exact hRef_r _ | exact hRef_o _ | exact hRef_n) rfl ?_
    refine g_iload (q := 23) C dX6_bestString_21 rfl rfl ?_
    refine g_iload_n (q := 24) C dX6_bestString_23 rfl rfl ?_
    refine g_iload_n (q := 25) C dX6_bestString_24 rfl rfl ?_
    refine g_callV3I (q := 28) C hy_X6_badBehind (c_X6_badBehind_s Γ l dmp hQ3 hI hdn hlt) qw_931 (by exact hQ3.1) rfl ⟨Nat.le_of_ble_eq_true rfl, Nat.le_of_ble_eq_true rfl⟩ (Nat.le_of_ble_eq_true rfl) rfl dX6_bestString_25 ⟨rfl, rfl⟩ ⟨Nat.zero_le _, Nat.zero_le _⟩ rfl (fun x_25 M_25 p_25 => ?_)
    obtain ⟨hs7, ⟨Gb, ec, ed, hQ7⟩, hK7⟩ := p_25
    refine g_istore6 (q := 30) C dX6_bestString_28 (by first | rfl | exact hNw_rf _) rfl ?_
    refine g_iload (q := 32) C dX6_bestString_30 rfl rfl ?_
    refine g_iload (q := 34) C dX6_bestString_32 rfl rfl ?_
    refine g_icmp_lt (t := 40) (q := 37) C dX6_bestString_34 (by decide) rfl (fun c_34 => ?_) (fun c_34 => ?_)
    · skip
      refine g_iload (q := 42) C dX6_bestString_40 rfl rfl ?_
      refine g_istore3 (q := 43) C dX6_bestString_42 (by first | rfl | exact hNw_rf _) rfl ?_
      refine g_iload (q := 45) C dX6_bestString_43 rfl rfl ?_
      refine g_istore4 (q := 47) C dX6_bestString_45 (by first | rfl | exact hNw_rf _) rfl ?_
      refine g_iinc5 (q := 50) (1) C dX6_bestString_47 (by decide) (by first | rfl | exact hNw_rf _) rfl ?_
      refine g_goto (t := 14) C dX6_bestString_50 (by decide) ?_
      rw [nI_1]
      have h8 : scor (vDays (sE S) (sL S) (sWin S) dmp (vTurn i (sB S)) dn) < ls := by rw [← hs7]; exact c_34
      refine ih hlt _ _ _ _ _ _ _ hQ7 (hK3.tr hK7) ?_
      rw [adR_s, ← hb5, hs7]
      exact (if_pos h8).symm
    · skip
      refine g_goto (t := 47) C dX6_bestString_37 (by decide) ?_
      refine g_iinc5 (q := 50) (1) C dX6_bestString_47 (by decide) (by first | rfl | exact hNw_rf _) rfl ?_
      refine g_goto (t := 14) C dX6_bestString_50 (by decide) ?_
      rw [nI_1]
      have h8 : ¬ scor (vDays (sE S) (sL S) (sWin S) dmp (vTurn i (sB S)) dn) < ls := by rw [← hs7]; exact c_34
      refine ih hlt _ _ _ _ _ _ _ hQ7 (hK3.tr hK7) ?_
      rw [adR_s, ← hb5]
      exact (if_neg h8).symm
