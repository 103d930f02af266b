set_option maxRecDepth 100000 in
set_option maxHeartbeats 4000000 in
theorem c_X6_fits_g (Γ : hGam) (l : Launch) {M : hM} {m s ah od : Nat} {ad : Nat → Nat} {G : Nat → Nat → Int32} {th wi hs os gi dd : Int32} {n k o j : Nat} {B : Nat → hB} (mM : M m = some (true, oModel th wi hs (some (ad 15)) (some (ad 16)) os (some (ad 17)) (some (ad 18)) (some (ad 19)) (some (ad 20)) gi (some s) (some ah) (some od))) (mA : mdA Γ M ad G) (mS : M s = some (true, oSt ad 0 dd)) (hV : stV G 0 B) (hB : ∀ i, i < 40 → ∀ j, (B i).1 = some j → j < n) (hn : n ≤ 6) (ho6 : o < 6) (hj : j < n) (h17 : G 17 o = nI j) (hk : k < 40) : hMet Γ l yX6_fits cX6_fits 3 (some .boolean) rm_X6_fits [.ref m, .int (nI k), .int (nI o)] M (hpP M (bI (bFit (B k) (some j) (G 19 o)))) := by
  refine hMet_of (by decide +kernel) (Nat.le_of_ble_eq_true rfl) (hCat_cons rfl (hCat_cons rfl (hCat_cons rfl hCat_nil))) (fun k9 C => ?_)
  show hG _ _ _ _ _ _ _ _ [some (.ref m), some (.int (nI k)), some (.int (nI o))] _
  refine g_aload_n (q := 1) C dX6_fits_0 rfl (by first | exact hRef_r _ | exact hRef_o _ | exact hRef_n) rfl ?_
  refine g_get (q := 4) C hcl_X6 11 (by decide) qw_720 rfl dX6_fits_1 (by first | exact mM | exact mS) rfl rfl ?_
  refine g_getN (q := 7) C hcl_X5 1 (by decide) qw_686 rfl dX6_fits_4 (by first | exact mM | exact mS) rfl rfl ?_
  refine g_iload_n (q := 8) C dX6_fits_7 rfl rfl ?_
  refine g_iald (q := 9) C k rfl (hk) (by decide) dX6_fits_8 (mA.at0 (c := 0) (by decide)) rfl ?_
  refine g_aload_n (q := 10) C dX6_fits_9 rfl (by first | exact hRef_r _ | exact hRef_o _ | exact hRef_n) rfl ?_
  refine g_get (q := 13) C hcl_X6 6 (by decide) qw_715 rfl dX6_fits_10 (by first | exact mM | exact mS) rfl rfl ?_
  refine g_iload_n (q := 14) C dX6_fits_13 rfl rfl ?_
  refine g_iald (q := 15) C o rfl (ho6) (by decide) dX6_fits_14 (mA.at6 (c := 17) (by decide) (by decide)) rfl ?_
  refine g_icmp_ne (t := 51) (q := 18) C dX6_fits_15 (by decide) rfl (fun c_15 => ?_) (fun c_15 => ?_)
  · skip
    refine g_iconst (q := 52) (0) C dX6_fits_51 (by decide) rfl ?_
    exact g_zret C dX6_fits_52 (by first | rfl | exact hNarB _) (⟨by rw [fits_md hV hB hn hk hj, ← h17]; simp [c_15, bI], rfl⟩) (Nat.zero_le _) (Nat.zero_le _)
  · skip
    refine g_aload_n (q := 19) C dX6_fits_18 rfl (by first | exact hRef_r _ | exact hRef_o _ | exact hRef_n) rfl ?_
    refine g_get (q := 22) C hcl_X6 11 (by decide) qw_720 rfl dX6_fits_19 (by first | exact mM | exact mS) rfl rfl ?_
    refine g_iload_n (q := 23) C dX6_fits_22 rfl rfl ?_
    refine g_callV1P (q := 26) C hy_X5_wetness (c_X5_wetness Γ l k mA mS (by decide) hk) qw_795 (by exact mS) rfl ⟨Nat.le_of_ble_eq_true rfl, Nat.le_of_ble_eq_true rfl⟩ (Nat.le_of_ble_eq_true rfl) rfl dX6_fits_23 ⟨rfl, rfl⟩ ⟨Nat.zero_le _, Nat.zero_le _⟩ rfl ?_
    refine g_aload_n (q := 27) C dX6_fits_26 rfl (by first | exact hRef_r _ | exact hRef_o _ | exact hRef_n) rfl ?_
    refine g_get (q := 30) C hcl_X6 8 (by decide) qw_717 rfl dX6_fits_27 (by first | exact mM | exact mS) rfl rfl ?_
    refine g_iload_n (q := 31) C dX6_fits_30 rfl rfl ?_
    refine g_iald (q := 32) C o rfl (ho6) (by decide) dX6_fits_31 (mA.at6 (c := 19) (by decide) (by decide)) rfl ?_
    refine g_icmp_gt (t := 51) (q := 35) C dX6_fits_32 (by decide) rfl (fun c_32 => ?_) (fun c_32 => ?_)
    · skip
      refine g_iconst (q := 52) (0) C dX6_fits_51 (by decide) rfl ?_
      exact g_zret C dX6_fits_52 (by first | rfl | exact hNarB _) (⟨by rw [fits_md hV hB hn hk hj, ← h17]; simp [c_15, Int32.not_le.mpr c_32, bI], rfl⟩) (Nat.zero_le _) (Nat.zero_le _)
    · skip
      refine g_aload_n (q := 36) C dX6_fits_35 rfl (by first | exact hRef_r _ | exact hRef_o _ | exact hRef_n) rfl ?_
      refine g_get (q := 39) C hcl_X6 11 (by decide) qw_720 rfl dX6_fits_36 (by first | exact mM | exact mS) rfl rfl ?_
      refine g_getN (q := 42) C hcl_X5 5 (by decide) qw_694 rfl dX6_fits_39 (by first | exact mM | exact mS) rfl rfl ?_
      refine g_iload_n (q := 43) C dX6_fits_42 rfl rfl ?_
      refine g_iald (q := 44) C k rfl (hk) (by decide) dX6_fits_43 (mA.at0 (c := 4) (by decide)) rfl ?_
      refine g_if_ne (t := 51) (q := 47) C dX6_fits_44 (by decide) rfl (fun c_44 => ?_) (fun c_44 => ?_)
      · skip
        refine g_iconst (q := 52) (0) C dX6_fits_51 (by decide) rfl ?_
        exact g_zret C dX6_fits_52 (by first | rfl | exact hNarB _) (⟨by rw [fits_md hV hB hn hk hj, ← h17]; simp [c_15, Int32.not_lt.mp c_32, c_44, bI], rfl⟩) (Nat.zero_le _) (Nat.zero_le _)
      · skip
        refine g_iconst (q := 48) (1) C dX6_fits_47 (by decide) rfl ?_
        refine g_goto (t := 52) C dX6_fits_48 (by decide) ?_
        exact g_zret C dX6_fits_52 (by first | rfl | exact hNarB _) (⟨by rw [fits_md hV hB hn hk hj, ← h17]; simp [c_15, Int32.not_lt.mp c_32, c_44, bI], rfl⟩) (Nat.zero_le _) (Nat.zero_le _)
set_option maxRecDepth 100000 in
set_option maxHeartbeats 4000000 in
theorem c_X6_filled (Γ : hGam) (l : Launch) {M : hM} {m s ah od : Nat} {ad : Nat → Nat} {G : Nat → Nat → Int32} {th wi hs os gi dd : Int32} {n o j : Nat} {B : Nat → hB} (mM : M m = some (true, oModel th wi hs (some (ad 15)) (some (ad 16)) os (some (ad 17)) (some (ad 18)) (some (ad 19)) (some (ad 20)) gi (some s) (some ah) (some od))) (mA : mdA Γ M ad G) (mS : M s = some (true, oSt ad 0 dd)) (hV : stV G 0 B) (hB : ∀ i, i < 40 → ∀ j, (B i).1 = some j → j < n) (hn : n ≤ 6) (ho6 : o < 6) (hj : j < n) (h17 : G 17 o = nI j) : hMet Γ l yX6_filled cX6_filled 5 (some .int) rm_X6_filled [.ref m, .int (nI o)] M (hpI (fun a M1 => a = (gvR (some j) (G 18 o) (G 19 o) (G 20 o) B (40)).2.2 ∧ ∃ G1, mdA Γ M1 ad G1 ∧ stV G1 0 (gvR (some j) (G 18 o) (G 19 o) (G 20 o) B (40)).1 ∧ (∀ c, 15 ≤ c → c ≠ 20 → G1 c = G c) ∧ (∀ i, G1 20 i = if i = o then (gvR (some j) (G 18 o) (G 19 o) (G 20 o) B (40)).2.1 else G 20 i) ∧ (∀ c, 5 ≤ c → c < 15 → G1 c = G c) ∧ hOff M M1 (onAd ad))) := by
  refine hMet_of (by decide +kernel) (Nat.le_of_ble_eq_true rfl) (hCat_cons rfl (hCat_cons rfl hCat_nil)) (fun k9 C => ?_)
  show hG _ _ _ _ _ _ _ _ [some (.ref m), some (.int (nI o)), none, none, none] _
  refine g_iconst (q := 1) (0) C dX6_filled_0 (by decide) rfl ?_
  refine g_istore2 (q := 2) C dX6_filled_1 (by first | rfl | exact hNw_rf _) rfl ?_
  refine g_iconst (q := 3) (4) C dX6_filled_2 (by decide) rfl ?_
  refine g_istore3 (q := 4) C dX6_filled_3 (by first | rfl | exact hNw_rf _) rfl ?_
  refine h_loopU (P := fun a => ∀ (M2 : hM) (G2 : Nat → Nat → Int32) (acc : Int32) (o4 : Option Value), mdA Γ M2 ad G2 → hOff M M2 (onAd ad) → stV G2 0 (gvR (some j) (G 18 o) (G 19 o) (G 20 o) B (a * 8)).1 → (∀ c, 15 ≤ c → c ≠ 20 → G2 c = G c) → (∀ i, G2 20 i = if i = o then (gvR (some j) (G 18 o) (G 19 o) (G 20 o) B (a * 8)).2.1 else G 20 i) → (∀ c, 5 ≤ c → c < 15 → G2 c = G c) → acc = (gvR (some j) (G 18 o) (G 19 o) (G 20 o) B (a * 8)).2.2 → hG Γ k9 _ _ M2 0 0 4 [some (.ref m), some (.int (nI o)), some (.int acc), some (.int (strV a)), o4] []) (N := 5) (fun a ha5 ih => ?_) 0 (Nat.zero_le _) M G _ none mA hOff.rf hV (fun _ _ _ => rfl) (fun i => by by_cases e : i = o; (subst e; rw [if_pos rfl]; rfl); (rw [if_neg e])) (fun _ _ _ => rfl) rfl
  intro M2 G2 acc o4 hA2 hO2 hV2 hH2 hG2 hL2 hc2
  refine g_iload_n (q := 5) C dX6_filled_4 rfl rfl ?_
  refine g_if_lt (t := 89) (q := 8) C dX6_filled_5 (by decide) rfl (fun c_5 => ?_) (fun c_5 => ?_)
  · skip
    have hN := strV_neg ha5 c_5
    subst hN
    refine g_iload_n (q := 90) C dX6_filled_89 rfl rfl ?_
    exact g_iret C dX6_filled_90 (⟨hc2, G2, hA2, hV2, hH2, hG2, hL2, hO2⟩) (Nat.zero_le _) (Nat.zero_le _)
  · skip
    have ha := strV_pos ha5 c_5
    rw [strV_lt ha]
    refine g_bipush (q := 10) (8) C dX6_filled_8 (by decide) rfl ?_
    refine g_iload_n (q := 11) C dX6_filled_10 rfl rfl ?_
    refine g_imul (q := 12) C dX6_filled_11 rfl ?_
    rw [nI_mul8]
    rw [show 8 * (4 - a) = 8 * (4 - a) + 0 from rfl]
    refine g_istore4 (q := 14) C dX6_filled_12 (by first | rfl | exact hNw_rf _) rfl ?_
    refine h_loopU (P := fun h => ∀ (M3 : hM) (G3 : Nat → Nat → Int32) (acc : Int32), mdA Γ M3 ad G3 → hOff M M3 (onAd ad) → stV G3 0 (gvR (some j) (G 18 o) (G 19 o) (G 20 o) B (a * 8 + h)).1 → (∀ c, 15 ≤ c → c ≠ 20 → G3 c = G c) → (∀ i, G3 20 i = if i = o then (gvR (some j) (G 18 o) (G 19 o) (G 20 o) B (a * 8 + h)).2.1 else G 20 i) → (∀ c, 5 ≤ c → c < 15 → G3 c = G c) → acc = (gvR (some j) (G 18 o) (G 19 o) (G 20 o) B (a * 8 + h)).2.2 → hG Γ k9 _ _ M3 0 0 14 [some (.ref m), some (.int (nI o)), some (.int acc), some (.int (nI (4 - a))), some (.int (nI (8 * (4 - a) + h)))] []) (N := 8) (fun h hh ih2 => ?_) 0 (Nat.zero_le _) M2 G2 acc hA2 hO2 hV2 hH2 hG2 hL2 hc2
    intro M3 G3 acc3 hA3 hO3 hV3 hH3 hG3 hL3 hc3
    have hm3 := mA.kc hO3 _ _ _ mM
    have hs3 := mA.kc hO3 _ _ _ mS
    have h20 : G3 20 o = (gvR (some j) (G 18 o) (G 19 o) (G 20 o) B (a * 8 + h)).2.1 := (hG3 o).trans (if_pos rfl)
    refine g_iload (q := 16) C dX6_filled_14 rfl rfl ?_
    refine g_bipush (q := 18) (8) C dX6_filled_16 (by decide) rfl ?_
    refine g_iload_n (q := 19) C dX6_filled_18 rfl rfl ?_
    refine g_iconst (q := 20) (1) C dX6_filled_19 (by decide) rfl ?_
    refine g_iadd (q := 21) C dX6_filled_20 rfl ?_
    refine g_imul (q := 22) C dX6_filled_21 rfl ?_
    rw [nI_1, nI_mul8]
    refine g_icmp_ge (t := 83) (q := 25) C dX6_filled_22 (by decide) rfl (fun c_22 => ?_) (fun c_22 => ?_)
    · skip
      have h8 := nI_ge_eq (N := 8 * (4 - a + 1)) (j := 8 * (4 - a) + h) (by omega) (by omega) c_22
      have h8e : h = 8 := by omega
      subst h8e
      refine g_iinc3 (q := 86) (-1) C dX6_filled_83 (by decide) (by first | rfl | exact hNw_rf _) rfl ?_
      refine g_goto (t := 4) C dX6_filled_86 (by decide) ?_
      have hE : (gvR (some j) (G 18 o) (G 19 o) (G 20 o) B ((a + 1) * 8)) = (gvR (some j) (G 18 o) (G 19 o) (G 20 o) B (a * 8 + 8)) := by rw [show (a + 1) * 8 = a * 8 + 8 by omega]
      rw [show nI (4 - a) + (-1) = strV (a + 1) by rw [← strV_lt ha]; exact strV_s ha]
      exact ih ha _ _ _ _ hA3 hO3 (by rw [hE]; exact hV3) hH3 (by rw [hE]; exact hG3) hL3 (by rw [hE]; exact hc3)
    · skip
      have hl9 := nI_nge_lt (N := 8 * (4 - a + 1)) (j := 8 * (4 - a) + h) (by omega) (by omega) c_22
      have hlt : h < 8 := by omega
      have hk9 : 8 * (4 - a) + h < 40 := by omega
      have hix : ixT (a * 8 + h) = 8 * (4 - a) + h := by rw [ixT_at (by omega)]; omega
      have h19 : G3 19 o = G 19 o := congrFun (hH3 19 (by decide) (by decide)) o
      refine g_aload_n (q := 26) C dX6_filled_25 rfl (by first | exact hRef_r _ | exact hRef_o _ | exact hRef_n) rfl ?_
      refine g_get (q := 29) C hcl_X6 9 (by decide) qw_718 rfl dX6_filled_26 (by exact hm3) rfl rfl ?_
      refine g_iload_n (q := 30) C dX6_filled_29 rfl rfl ?_
      refine g_iald (q := 31) C o rfl ho6 (by decide) dX6_filled_30 (hA3.at6 (c := 20) (by decide) (by decide)) rfl ?_
      refine g_top ((gvR (some j) (G 18 o) (G 19 o) (G 20 o) B (a * 8 + h)).2.1) (h20) ?_
      refine g_aload_n (q := 32) C dX6_filled_31 rfl (by first | exact hRef_r _ | exact hRef_o _ | exact hRef_n) rfl ?_
      refine g_get (q := 35) C hcl_X6 7 (by decide) qw_716 rfl dX6_filled_32 (by exact hm3) rfl rfl ?_
      refine g_iload_n (q := 36) C dX6_filled_35 rfl rfl ?_
      refine g_iald (q := 37) C o rfl ho6 (by decide) dX6_filled_36 (hA3.at6 (c := 18) (by decide) (by decide)) rfl ?_
      refine g_top (G 18 o) (by rw [hH3 18 (by decide) (by decide)]) ?_
      refine g_icmp_ge (t := 83) (q := 40) C dX6_filled_37 (by decide) rfl (fun c_37 => ?_) (fun c_37 => ?_)
      · skip
        have hgm := Int32.not_lt.mpr c_37
        refine g_iinc3 (q := 86) (-1) C dX6_filled_83 (by decide) (by first | rfl | exact hNw_rf _) rfl ?_
        refine g_goto (t := 4) C dX6_filled_86 (by decide) ?_
        have hE : (gvR (some j) (G 18 o) (G 19 o) (G 20 o) B ((a + 1) * 8)) = (gvR (some j) (G 18 o) (G 19 o) (G 20 o) B (a * 8 + h)) := by rw [show (a + 1) * 8 = a * 8 + h + (8 - h) by omega]; exact gvR_st hgm (8 - h)
        rw [show nI (4 - a) + (-1) = strV (a + 1) by rw [← strV_lt ha]; exact strV_s ha]
        exact ih ha _ _ _ _ hA3 hO3 (by rw [hE]; exact hV3) hH3 (by rw [hE]; exact hG3) hL3 (by rw [hE]; exact hc3)
      · skip
        have hgm := Int32.not_le.mp c_37
        refine g_aload_n (q := 41) C dX6_filled_40 rfl (by first | exact hRef_r _ | exact hRef_o _ | exact hRef_n) rfl ?_
        refine g_iload (q := 43) C dX6_filled_41 rfl rfl ?_
        refine g_iload_n (q := 44) C dX6_filled_43 rfl rfl ?_
        refine g_callV2P (q := 47) C hy_X6_fits (c_X6_fits_g Γ l hm3 hA3 hs3 hV3 (gvR_1 hB _) hn ho6 hj ((congrFun (hH3 17 (by decide) (by decide)) o).trans h17) hk9) qw_837 (by exact hm3) rfl ⟨Nat.le_of_ble_eq_true rfl, Nat.le_of_ble_eq_true rfl⟩ (Nat.le_of_ble_eq_true rfl) rfl dX6_filled_44 ⟨rfl, rfl⟩ ⟨Nat.zero_le _, Nat.zero_le _⟩ rfl ?_
        refine g_ifB_ne (t := 53) (q := 50) C dX6_filled_47 (by decide) rfl (fun c_47 => ?_) (fun c_47 => ?_)
        · skip
          rw [h19] at c_47
          refine g_aload_n (q := 54) C dX6_filled_53 rfl (by first | exact hRef_r _ | exact hRef_o _ | exact hRef_n) rfl ?_
          refine g_get (q := 57) C hcl_X6 11 (by decide) qw_720 rfl dX6_filled_54 (by exact hm3) rfl rfl ?_
          refine g_getN (q := 60) C hcl_X5 1 (by decide) qw_686 rfl dX6_filled_57 (by exact hs3) rfl rfl ?_
          refine g_iload (q := 62) C dX6_filled_60 rfl rfl ?_
          refine g_iconst (q := 63) (-1) C dX6_filled_62 (by decide) rfl ?_
          refine g_iast (q := 64) C (8 * (4 - a) + h) rfl hk9 (by decide) dX6_filled_63 (hA3.at0 (c := 0) (by decide)) rfl ?_
          obtain ⟨G4, hA4, hk4, hoo4, -, hG4⟩ := hA3.sti (c := 0) (k := 8 * (4 - a) + h) (by decide) (-1)
          have hm4 := hk4 _ _ _ hm3
          refine g_aload_n (q := 65) C dX6_filled_64 rfl (by first | exact hRef_r _ | exact hRef_o _ | exact hRef_n) rfl ?_
          refine g_get (q := 68) C hcl_X6 9 (by decide) qw_718 rfl dX6_filled_65 (by exact hm4) rfl rfl ?_
          refine g_iload_n (q := 69) C dX6_filled_68 rfl rfl ?_
          refine g_dup2 (q := 70) C dX6_filled_69 rfl rfl rfl ?_
          refine g_iald (q := 71) C o rfl ho6 (by decide) dX6_filled_70 (hA4.at6 (c := 20) (by decide) (by decide)) rfl ?_
          refine g_top ((gvR (some j) (G 18 o) (G 19 o) (G 20 o) B (a * 8 + h)).2.1) (by rw [hG4, if_neg (fun q => by omega)]; exact h20) ?_
          refine g_iconst (q := 72) (1) C dX6_filled_71 (by decide) rfl ?_
          refine g_iadd (q := 73) C dX6_filled_72 rfl ?_
          refine g_iast (q := 74) C o rfl ho6 (by decide) dX6_filled_73 (hA4.at6 (c := 20) (by decide) (by decide)) rfl ?_
          obtain ⟨G5, hA5, hk5, hoo5, -, hG5⟩ := hA4.sti6 (c := 20) (k := o) (by decide) (by decide) ((gvR (some j) (G 18 o) (G 19 o) (G 20 o) B (a * 8 + h)).2.1 + 1)
          refine g_iinc2 (q := 77) (1) C dX6_filled_74 (by decide) (by first | rfl | exact hNw_rf _) rfl ?_
          refine g_iinc4 (q := 80) (1) C dX6_filled_77 (by decide) (by first | rfl | exact hNw_rf _) rfl ?_
          refine g_goto (t := 14) C dX6_filled_80 (by decide) ?_
          rw [nI_1]
          have hE : (gvR (some j) (G 18 o) (G 19 o) (G 20 o) B (a * 8 + (h + 1))) = (fUp (gvR (some j) (G 18 o) (G 19 o) (G 20 o) B (a * 8 + h)).1 (8 * (4 - a) + h) (none, 0, 0, 0, 0), (gvR (some j) (G 18 o) (G 19 o) (G 20 o) B (a * 8 + h)).2.1 + 1, (gvR (some j) (G 18 o) (G 19 o) (G 20 o) B (a * 8 + h)).2.2 + 1) := by rw [show a * 8 + (h + 1) = a * 8 + h + 1 by omega, gvR_s]; unfold gvS; rw [if_pos (by rw [hix, c_47, decide_eq_true hgm]; rfl), hix]
          refine ih2 hlt _ G5 _ hA5 (hoo5 _ _ (hoo4 _ _ hO3 ⟨0, by decide, rfl⟩) ⟨20, by decide, rfl⟩) ?_ ?_ ?_ ?_ ?_
          · rw [hE]
            refine (hV3.clr hG4).ofR (fun i hi => ?_)
            unfold rG
            rw [hG5, if_neg (fun q => by omega), hG5, if_neg (fun q => by omega), hG5, if_neg (fun q => by omega), hG5, if_neg (fun q => by omega), hG5, if_neg (fun q => by omega)]
          · intro c hc hc2
            funext i
            rw [hG5, if_neg (fun q => hc2 q.1), hG4, if_neg (fun q => by omega), hH3 c hc hc2]
          · intro i
            rw [hE, hG5]
            by_cases e : i = o
            · exact (if_pos ⟨rfl, e⟩).trans (if_pos e).symm
            · rw [if_neg (fun q => e q.2), if_neg e, hG4, if_neg (fun q => by omega), hG3, if_neg e]
          · intro c hc hc2
            funext i
            rw [hG5, if_neg (fun q => by omega), hG4, if_neg (fun q => by omega), hL3 c hc hc2]
          · rw [hE, hc3]
        · skip
          rw [h19] at c_47
          refine g_goto (t := 77) C dX6_filled_50 (by decide) ?_
          refine g_iinc4 (q := 80) (1) C dX6_filled_77 (by decide) (by first | rfl | exact hNw_rf _) rfl ?_
          refine g_goto (t := 14) C dX6_filled_80 (by decide) ?_
          rw [nI_1]
          have hE : (gvR (some j) (G 18 o) (G 19 o) (G 20 o) B (a * 8 + (h + 1))) = (gvR (some j) (G 18 o) (G 19 o) (G 20 o) B (a * 8 + h)) := by rw [show a * 8 + (h + 1) = a * 8 + h + 1 by omega, gvR_s]; unfold gvS; rw [if_neg (by rw [hix, Bool.and_eq_true]; exact fun q => by rw [c_47] at q; cases q.2)]
          exact ih2 hlt _ _ _ hA3 hO3 (by rw [hE]; exact hV3) hH3 (by rw [hE]; exact hG3) hL3 (by rw [hE]; exact hc3)
