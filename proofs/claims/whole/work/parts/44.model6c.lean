set_option maxRecDepth 100000 in
set_option maxHeartbeats 4000000 in
theorem c_X6_untilDry (Γ : hGam) (l : Launch) {M : hM} {m : Nat} {th : Int32} {S : hS} {s ah od : Nat} {ad : Nat → Nat} {G : Nat → Nat → Int32} {d1 d2 : Int32} {k : Nat} (w dmp : Int32) (hQ : mdQ Γ M m th S s ah od ad G d1 d2) (hI : sInv S) (hk : k < 40) : hMet Γ l yX6_untilDry cX6_untilDry 5 (some .int) rm_X6_untilDry [.ref m, .int (nI k), .int w, .int dmp] M (hpI (fun a M1 => a = (if bTak (sB S k) = true then fndU (fun t => decide (bWet (vDays (sE S) (sL S) (sWin S) dmp (sB S) t k) ≤ w)) 91 0 else -1) ∧ (∃ G1 e1 e2, mdQ Γ M1 m th S s ah od ad G1 e1 e2) ∧ hKm M M1)) := by
  have hQc := hQ
  obtain ⟨mM, mA, mS, mAh, mOd, mNe, mH, ⟨mO, mO0⟩, mV⟩ := hQc
  have hn6 := hI.1
  have ho6 := hI.2.1
  have R := mV.rel hI.lt hI.1
  refine hMet_of (by decide +kernel) (Nat.le_of_ble_eq_true rfl) (hCat_cons rfl (hCat_cons rfl (hCat_cons rfl (hCat_cons rfl hCat_nil)))) (fun k9 C => ?_)
  show hG _ _ _ _ _ _ _ _ [some (.ref m), some (.int (nI k)), some (.int w), some (.int dmp), none] _
  refine g_aload_n (q := 1) C dX6_untilDry_0 rfl (by first | exact hRef_r _ | exact hRef_o _ | exact hRef_n) rfl ?_
  refine g_get (q := 4) C hcl_X6 11 (by decide) qw_720 rfl dX6_untilDry_1 (by first | exact mM | exact mS) rfl rfl ?_
  refine g_iload_n (q := 5) C dX6_untilDry_4 rfl rfl ?_
  refine g_callV1P (q := 8) C hy_X5_hangs (c_X5_hangs Γ l k mA mS (by decide) hk) qw_778 (by exact mS) rfl ⟨Nat.le_of_ble_eq_true rfl, Nat.le_of_ble_eq_true rfl⟩ (Nat.le_of_ble_eq_true rfl) rfl dX6_untilDry_5 ⟨rfl, rfl⟩ ⟨Nat.zero_le _, Nat.zero_le _⟩ rfl ?_
  refine g_ifB_ne (t := 13) (q := 11) C dX6_untilDry_8 (by decide) rfl (fun c_8 => ?_) (fun c_8 => ?_)
  · skip
    have f_8 : bTak (sB S k) = true := (R.tk hk).symm.trans c_8
    refine g_aload_n (q := 14) C dX6_untilDry_13 rfl (by first | exact hRef_r _ | exact hRef_o _ | exact hRef_n) rfl ?_
    refine g_get (q := 17) C hcl_X6 12 (by decide) qw_721 rfl dX6_untilDry_14 (by exact mM) rfl rfl ?_
    refine g_aload_n (q := 18) C dX6_untilDry_17 rfl (by first | exact hRef_r _ | exact hRef_o _ | exact hRef_n) rfl ?_
    refine g_get (q := 21) C hcl_X6 11 (by decide) qw_720 rfl dX6_untilDry_18 (by exact mM) rfl rfl ?_
    refine g_callV1V (q := 24) C hy_X5_become (c_X5_become Γ l mA mAh (by decide) mS (by decide) (by decide) (Ne.symm mNe.1)) qw_853 (by exact mAh) rfl ⟨Nat.le_of_ble_eq_true rfl, Nat.le_of_ble_eq_true rfl⟩ (Nat.le_of_ble_eq_true rfl) rfl dX6_untilDry_21 ⟨rfl, rfl⟩ ⟨Nat.zero_le _, Nat.zero_le _⟩ rfl (fun M_21 p_21 => ?_)
    obtain ⟨G1, hA1, hR1, hL1, ha1, hO1⟩ := p_21
    have hd1 := (hO1 od (fun q => by rcases q with ⟨c, hc, q⟩ | q; exact mA.ne hc mOd q; exact mNe.2.2 q.symm)).trans mOd
    obtain ⟨hQ1, hK1⟩ := hQ.ahd hA1 (fun c hc => hR1 c (by omega)) (fun c hc => hR1 c (by omega)) ha1 hd1 (hO1.wk (fun a q => q.imp id Or.inl))
    have hV1 := mV.ofR hL1
    refine g_iconst (q := 25) (0) C dX6_untilDry_24 (by decide) rfl ?_
    refine g_istore4 (q := 27) C dX6_untilDry_25 (by first | rfl | exact hNw_rf _) rfl ?_
    refine h_loopU (P := fun t => ∀ (M2 : hM) (G2 : Nat → Nat → Int32) (e1 e2 : Int32), mdQ Γ M2 m th S s ah od ad G2 e1 e2 → stV G2 5 (vDays (sE S) (sL S) (sWin S) dmp (sB S) t) → hKm M M2 → fndU (fun t => decide (bWet (vDays (sE S) (sL S) (sWin S) dmp (sB S) t k) ≤ w)) 91 0 = fndU (fun t => decide (bWet (vDays (sE S) (sL S) (sWin S) dmp (sB S) t k) ≤ w)) (91 - t) t → hG Γ k9 _ _ M2 0 0 27 [some (.ref m), some (.int (nI k)), some (.int w), some (.int dmp), some (.int (nI t))] []) (N := 91) (fun t ht ih => ?_) 0 (Nat.zero_le _) M_21 G1 _ _ hQ1 hV1 hK1 rfl
    intro M2 G2 e1 e2 hQ2 hV2 hK2 hA9
    have hts : ((vDays (sE S) (sL S) (sWin S) dmp (sB S) t) k).1.isSome = true := by rw [vDays_1]; exact f_8
    have hwt := (hV2.rel (vDays_lt hI.lt t) hn6).wt hk hts
    refine g_iload (q := 29) C dX6_untilDry_27 rfl rfl ?_
    refine g_bipush (q := 31) (90) C dX6_untilDry_29 (by decide) rfl ?_
    refine g_icmp_gt (t := 64) (q := 34) C dX6_untilDry_31 (by decide) rfl (fun c_31 => ?_) (fun c_31 => ?_)
    · skip
      have hN := nI_gt_eq ht (by decide) c_31
      subst hN
      refine g_iconst (q := 65) (-1) C dX6_untilDry_64 (by decide) rfl ?_
      exact g_iret C dX6_untilDry_65 (⟨by rw [if_pos f_8, hA9, show 91 - 91 = 0 from rfl]; rfl, ⟨G2, e1, e2, hQ2⟩, hK2⟩) (Nat.zero_le _) (Nat.zero_le _)
    · skip
      have hlt := nI_ngt_lt ht (by decide) c_31
      refine g_aload_n (q := 35) C dX6_untilDry_34 rfl (by first | exact hRef_r _ | exact hRef_o _ | exact hRef_n) rfl ?_
      refine g_get (q := 38) C hcl_X6 12 (by decide) qw_721 rfl dX6_untilDry_35 (by exact hQ2.1) rfl rfl ?_
      refine g_iload_n (q := 39) C dX6_untilDry_38 rfl rfl ?_
      refine g_callV1P (q := 42) C hy_X5_wetness (c_X5_wetness Γ l k hQ2.2.1 hQ2.2.2.2.1 (by decide) hk) qw_795 (by exact hQ2.2.2.2.1) rfl ⟨Nat.le_of_ble_eq_true rfl, Nat.le_of_ble_eq_true rfl⟩ (Nat.le_of_ble_eq_true rfl) rfl dX6_untilDry_39 ⟨rfl, rfl⟩ ⟨Nat.zero_le _, Nat.zero_le _⟩ rfl ?_
      refine g_iload_n (q := 43) C dX6_untilDry_42 rfl rfl ?_
      refine g_icmp_gt (t := 49) (q := 46) C dX6_untilDry_43 (by decide) rfl (fun c_43 => ?_) (fun c_43 => ?_)
      · skip
        refine g_aload_n (q := 50) C dX6_untilDry_49 rfl (by first | exact hRef_r _ | exact hRef_o _ | exact hRef_n) rfl ?_
        refine g_aload_n (q := 51) C dX6_untilDry_50 rfl (by first | exact hRef_r _ | exact hRef_o _ | exact hRef_n) rfl ?_
        refine g_get (q := 54) C hcl_X6 12 (by decide) qw_721 rfl dX6_untilDry_51 (by exact hQ2.1) rfl rfl ?_
        refine g_iload_n (q := 55) C dX6_untilDry_54 rfl rfl ?_
        refine g_callV2V (q := 58) C hy_X6_dayOn (c_X6_dayOn Γ l dmp hQ2.1 hQ2.2.1 hQ2.2.2.2.1 hQ2.2.2.2.2.1 mNe.2.2 (Or.inr rfl) hQ2.2.2.2.2.2.2.1 hV2 (vDays_lt hI.lt t) hn6) qw_849 (by exact hQ2.1) rfl ⟨Nat.le_of_ble_eq_true rfl, Nat.le_of_ble_eq_true rfl⟩ (Nat.le_of_ble_eq_true rfl) rfl dX6_untilDry_55 ⟨rfl, rfl⟩ ⟨Nat.zero_le _, Nat.zero_le _⟩ rfl (fun M_55 p_55 => ?_)
        obtain ⟨G3, hA3, hH3, hL3, hV3, hf3, hd3, hO3⟩ := p_55
        obtain ⟨hQ3, hK3⟩ := hQ2.ahd hA3 hH3 (fun c hc => hL3 c (by omega) (by omega)) hf3 hd3 hO3
        refine g_iinc4 (q := 61) (1) C dX6_untilDry_58 (by decide) (by first | rfl | exact hNw_rf _) rfl ?_
        refine g_goto (t := 27) C dX6_untilDry_61 (by decide) ?_
        rw [nI_1]
        refine ih hlt _ _ _ _ hQ3 (by rw [vDays_s]; exact hV3) (hK2.tr hK3) (hA9.trans (by rw [show 91 - t = (91 - (t + 1)) + 1 by omega]; exact fndU_f (decide_eq_false (fun h9 => Int32.not_le.mpr c_43 (le_eq9 hwt h9)))))
      · skip
        refine g_iload (q := 48) C dX6_untilDry_46 rfl rfl ?_
        exact g_iret C dX6_untilDry_48 (⟨by rw [if_pos f_8, hA9, show 91 - t = (90 - t) + 1 by omega]; exact (fndU_t (decide_eq_true (le_eq9 hwt.symm (Int32.not_lt.mp c_43)))).symm, ⟨G2, e1, e2, hQ2⟩, hK2⟩) (Nat.zero_le _) (Nat.zero_le _)
  · skip
    have f_8 : bTak (sB S k) = false := (R.tk hk).symm.trans c_8
    refine g_iconst (q := 12) (-1) C dX6_untilDry_11 (by decide) rfl ?_
    exact g_iret C dX6_untilDry_12 (⟨by rw [f_8]; rfl, ⟨G, d1, d2, hQ⟩, hKm.rf⟩) (Nat.zero_le _) (Nat.zero_le _)
