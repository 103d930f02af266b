theorem fill_end {Γ : hGam} {M M0 M2 : hM} {m : Nat} {S : hS} {s ah od : Nat} {ad : Nat → Nat} {G G2 : Nat → Nat → Int32} {d1 d2 acc : Int32} {B2 : Nat → hB} {Gt : Nat → Int32} (hQ : mdQ Γ M0 m 0 S s ah od ad G d1 d2) (hI : sInv S) (hO2 : hOff M0 M2 (onAd ad)) (hA2 : mdA Γ M2 ad G2) (hm2 : M2 m = some (true, (oModel 0 (sWin S) (nI (sN S)) (some (ad 15)) (some (ad 16)) (nI (sO S)) (some (ad 17)) (some (ad 18)) (some (ad 19)) (some (ad 20)) (givn S) (some s) (some ah) (some od)))) (hH2 : ∀ c, 15 ≤ c → c ≠ 20 → G2 c = G c) (hG2 : ∀ k, k < sO S → G2 20 k = Gt k) (hZ2 : ∀ k, sO S ≤ k → G2 20 k = 0) (hV2 : stV G2 0 B2) (hK0 : hKm M M0) (q1 : (sFill S).2.2.2.1 = B2) (q2 : (sFill S).2.2.1.2.2.2.2 = Gt) (q3 : (sFill S).1 = acc) :
    acc = (sFill S).1 ∧ mdP Γ (hU M2 m (oModel 0 (sWin S) (nI (sN S)) (some (ad 15)) (some (ad 16)) (nI (sO S)) (some (ad 17)) (some (ad 18)) (some (ad 19)) (some (ad 20)) (givn S + acc) (some s) (some ah) (some od))) m 0 (sFill S).2 ∧ hKm M (hU M2 m (oModel 0 (sWin S) (nI (sN S)) (some (ad 15)) (some (ad 16)) (nI (sO S)) (some (ad 17)) (some (ad 18)) (some (ad 19)) (some (ad 20)) (givn S + acc) (some s) (some ah) (some od))) := by
  subst q1 q2 q3
  obtain ⟨mM, mA, mS, mAh, mOd, mNe, mH, ⟨mO, mO0⟩, mV⟩ := id hQ
  have n1 : s ≠ m := fun q => by rw [q, mM] at mS; cases mS
  have n2 : ah ≠ m := fun q => by rw [q, mM] at mAh; cases mAh
  have n3 : od ≠ m := fun q => by rw [q, mM] at mOd; cases mOd
  have hk := mA.kc hO2
  refine ⟨rfl, hQ.rows (S1 := (sFill S).2) (hA2.cell hm2 _) (by rw [givn_f]; exact hU_s _ _ _) ((hU_n n1).trans (hk _ _ _ mS)) ((hU_n n2).trans (hk _ _ _ mAh)) ((hU_n n3).trans (hk _ _ _ mOd)) (fun i hi => ?_) ⟨fun i hi => ?_, fun i hi => hZ2 i hi⟩ hV2, (hK0.tr (mA.km hO2)).put hm2 (Or.inr (Or.inl rfl))⟩
  · rw [hH2 15 (by decide) (by decide), hH2 16 (by decide) (by decide)]; exact mH i hi
  · rw [hH2 17 (by decide) (by decide), hH2 18 (by decide) (by decide), hH2 19 (by decide) (by decide)]
    exact ⟨(mO i hi).1, (mO i hi).2.1, (mO i hi).2.2.1, hG2 i hi⟩
set_option maxRecDepth 100000 in
set_option maxHeartbeats 4000000 in
theorem c_X6_fill (Γ : hGam) (l : Launch) {M : hM} {m : Nat} {th : Int32} {S : hS} (hP : mdP Γ M m th S) (hI : sInv S) : hMet Γ l yX6_fill cX6_fill 3 (some .int) rm_X6_fill [.ref m] M (hpI (fun a M1 => a = (sFill S).1 ∧ mdP Γ M1 m 0 (sFill S).2 ∧ hKm M M1)) := by
  obtain ⟨s, ah, od, ad, G, d1, d2, hQ0⟩ := hP
  refine hMet_of (by decide +kernel) (Nat.le_of_ble_eq_true rfl) (hCat_cons rfl hCat_nil) (fun k9 C => ?_)
  show hG _ _ _ _ _ _ _ _ [some (.ref m), none, none] _
  refine g_aload_n (q := 1) C dX6_fill_0 rfl (by first | exact hRef_r _ | exact hRef_o _ | exact hRef_n) rfl ?_
  refine g_iconst (q := 2) (0) C dX6_fill_1 (by decide) rfl ?_
  refine g_put (q := 5) C hcl_X6 0 (by decide) qw_709 rfl rfl rfl rfl dX6_fill_2 (by exact hQ0.1) (Nat.le_of_ble_eq_true rfl) rfl ?_
  (try rw [hU_2])
  obtain ⟨hQ, hK0⟩ := hQ0.own 0
  obtain ⟨M0, hM0⟩ : ∃ Mz, Mz = hU M m (oModel 0 (sWin S) (nI (sN S)) (some (ad 15)) (some (ad 16)) (nI (sO S)) (some (ad 17)) (some (ad 18)) (some (ad 19)) (some (ad 20)) (givn S) (some s) (some ah) (some od)) := ⟨_, rfl⟩
  refine g_eqw (M1 := M0) hM0.symm ?_
  rw [← hM0] at hQ hK0
  have hQc := hQ
  obtain ⟨mM, mA, mS, mAh, mOd, mNe, mH, ⟨mO, mO0⟩, mV⟩ := hQc
  have hn6 := hI.1
  have ho6 := hI.2.1
  have R := mV.rel hI.lt hI.1
  refine g_iconst (q := 6) (0) C dX6_fill_5 (by decide) rfl ?_
  refine g_istore1 (q := 7) C dX6_fill_6 (by first | rfl | exact hNw_rf _) rfl ?_
  refine g_iconst (q := 8) (0) C dX6_fill_7 (by decide) rfl ?_
  refine g_istore2 (q := 9) C dX6_fill_8 (by first | rfl | exact hNw_rf _) rfl ?_
  refine h_loopU (P := fun i => ∀ (M2 : hM) (G2 : Nat → Nat → Int32) (B2 : Nat → hB) (Gt : Nat → Int32) (acc : Int32), mdA Γ M2 ad G2 → hOff M0 M2 (onAd ad) → stV G2 0 B2 → (∀ c, 15 ≤ c → c ≠ 20 → G2 c = G c) → (∀ k, k < sO S → G2 20 k = Gt k) → (∀ k, sO S ≤ k → G2 20 k = 0) → (B2, Gt, acc) = (flR (fun i => some (sW S i)) (sM S) (sD S) (sG S) (sB S) i) → hG Γ k9 _ _ M2 0 0 9 [some (.ref m), some (.int acc), some (.int (nI i))] []) (N := sO S) (fun i hi ih => ?_) 0 (Nat.zero_le _) M0 G (sB S) (sG S) 0 mA hOff.rf mV (fun _ _ _ => rfl) (fun k hk => (mO k hk).2.2.2) mO0 flR_0
  intro M2 G2 B2 Gt acc hA2 hO2 hV2 hH2 hG2 hZ2 hb5
  have hm2 := mA.kc hO2 _ _ _ mM
  have hs2 := mA.kc hO2 _ _ _ mS
  refine g_iload_n (q := 10) C dX6_fill_9 rfl rfl ?_
  refine g_aload_n (q := 11) C dX6_fill_10 rfl (by first | exact hRef_r _ | exact hRef_o _ | exact hRef_n) rfl ?_
  refine g_get (q := 14) C hcl_X6 5 (by decide) qw_714 rfl dX6_fill_11 (by exact hm2) rfl rfl ?_
  refine g_icmp_ge (t := 31) (q := 17) C dX6_fill_14 (by decide) rfl (fun c_14 => ?_) (fun c_14 => ?_)
  · skip
    have hN := nI_ge_eq hi (by omega) c_14
    subst hN
    refine g_aload_n (q := 32) C dX6_fill_31 rfl (by first | exact hRef_r _ | exact hRef_o _ | exact hRef_n) rfl ?_
    refine g_dup (q := 33) C dX6_fill_32 rfl rfl ?_
    refine g_get (q := 36) C hcl_X6 10 (by decide) qw_719 rfl dX6_fill_33 (by exact hm2) rfl rfl ?_
    refine g_iload_n (q := 37) C dX6_fill_36 rfl rfl ?_
    refine g_iadd (q := 38) C dX6_fill_37 rfl ?_
    refine g_put (q := 41) C hcl_X6 10 (by decide) qw_719 rfl rfl rfl rfl dX6_fill_38 (by exact hm2) (Nat.le_of_ble_eq_true rfl) rfl ?_
    (try rw [hU_2])
    refine g_iload_n (q := 42) C dX6_fill_41 rfl rfl ?_
    exact g_iret C dX6_fill_42 (by have hb6 : ((sFill S).2.2.2.1, (sFill S).2.2.1.2.2.2.2, (sFill S).1) = (B2, Gt, acc) := hb5.symm; have q1 : (sFill S).2.2.2.1 = B2 := congrArg (fun z => z.1) hb6; have q2 : (sFill S).2.2.1.2.2.2.2 = Gt := congrArg (fun z => z.2.1) hb6; have q3 : (sFill S).1 = acc := congrArg (fun z => z.2.2) hb6; exact fill_end hQ hI hO2 hA2 hm2 hH2 hG2 hZ2 hV2 hK0 q1 q2 q3) (Nat.zero_le _) (Nat.zero_le _)
  · skip
    have hlt := nI_nge_lt hi (by omega) c_14
    have e18 : G2 18 i = sM S i := (congrFun (hH2 18 (by decide) (by decide)) i).trans (mO i hlt).2.1
    have e19 : G2 19 i = sD S i := (congrFun (hH2 19 (by decide) (by decide)) i).trans (mO i hlt).2.2.1
    have e20 := hG2 i hlt
    have e17 : G2 17 i = nI (sW S i) := (congrFun (hH2 17 (by decide) (by decide)) i).trans (mO i hlt).1
    have hB2 : ∀ k, k < 40 → ∀ j, (B2 k).1 = some j → j < sN S := by have := fl_lt (W := fun i => some (sW S i)) (Mn := sM S) (Dr := sD S) (G := sG S) hI.lt i; rw [← hb5] at this; exact this
    refine g_iload_n (q := 18) C dX6_fill_17 rfl rfl ?_
    refine g_aload_n (q := 19) C dX6_fill_18 rfl (by first | exact hRef_r _ | exact hRef_o _ | exact hRef_n) rfl ?_
    refine g_iload_n (q := 20) C dX6_fill_19 rfl rfl ?_
    refine g_callV1I (q := 23) C hy_X6_filled (c_X6_filled Γ l hm2 hA2 hs2 hV2 hB2 hn6 (show i < 6 by omega) (hI.2.2.2.1 i hlt) e17) qw_833 (by exact hm2) rfl ⟨Nat.le_of_ble_eq_true rfl, Nat.le_of_ble_eq_true rfl⟩ (Nat.le_of_ble_eq_true rfl) rfl dX6_fill_20 ⟨rfl, rfl⟩ ⟨Nat.zero_le _, Nat.zero_le _⟩ rfl (fun x_20 M_20 p_20 => ?_)
    rw [e18, e19, e20] at p_20
    obtain ⟨u1, G3, hA3, hV3, hH3, hG3, hL3, hO3⟩ := p_20
    refine g_iadd (q := 24) C dX6_fill_23 rfl ?_
    refine g_istore1 (q := 25) C dX6_fill_24 (by first | rfl | exact hNw_rf _) rfl ?_
    refine g_iinc2 (q := 28) (1) C dX6_fill_25 (by decide) (by first | rfl | exact hNw_rf _) rfl ?_
    refine g_goto (t := 9) C dX6_fill_28 (by decide) ?_
    rw [nI_1, u1]
    refine ih hlt _ G3 _ _ _ hA3 (hO2.tr hO3) hV3 (fun c hc hc2 => (hH3 c hc hc2).trans (hH2 c hc hc2)) (fun k hk => ?_) (fun k hk => ?_) (flR_s hb5).symm
    · rw [hG3]
      by_cases e : k = i
      · subst e; rw [if_pos rfl, fUp_s]
      · rw [if_neg e, fUp_n e]; exact hG2 k hk
    · rw [hG3, if_neg (by omega)]; exact hZ2 k hk
