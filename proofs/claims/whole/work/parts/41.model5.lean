set_option maxRecDepth 100000 in
set_option maxHeartbeats 4000000 in
theorem c_X6_dayOn (Γ : hGam) (l : Launch) {M : hM} {m fo9 od s ah : Nat} {ad : Nat → Nat} {G : Nat → Nat → Int32} {th wi hs os gi : Int32} {o n : Nat} {B : Nat → hB} {eH lH : Nat → Int32} {d9 dd : Int32} (dmp : Int32) (mM : M m = some (true, oModel th wi hs (some (ad 15)) (some (ad 16)) os (some (ad 17)) (some (ad 18)) (some (ad 19)) (some (ad 20)) gi (some s) (some ah) (some od))) (mA : mdA Γ M ad G) (hf : M fo9 = some (true, oSt ad o d9)) (hd : M od = some (true, oSt ad 10 dd)) (hne : fo9 ≠ od) (ho : o = 0 ∨ o = 5) (hH : ∀ i, i < n → G 15 i = eH i ∧ G 16 i = lH i) (hV : stV G o B) (hB : ∀ i, i < 40 → ∀ j, (B i).1 = some j → j < n) (hn : n ≤ 6) : hMet Γ l yX6_dayOn cX6_dayOn 5 none rm_X6_dayOn [.ref m, .ref fo9, .int dmp] M (hpV (fun M1 => ∃ G1, mdA Γ M1 ad G1 ∧ (∀ c, 15 ≤ c → G1 c = G c) ∧ (∀ c, c < 10 → (c < o ∨ o + 5 ≤ c) → G1 c = G c) ∧ stV G1 o (vDay eH lH wi dmp B) ∧ M1 fo9 = some (true, oSt ad o (d9 + 1)) ∧ M1 od = some (true, oSt ad 10 d9) ∧ hOff M M1 (fun a => onAd ad a ∨ a = fo9 ∨ a = od))) := by
  have ho4 : o + 4 < 15 := by omega
  refine hMet_of (by decide +kernel) (Nat.le_of_ble_eq_true rfl) (hCat_cons rfl (hCat_cons rfl (hCat_cons rfl hCat_nil))) (fun k9 C => ?_)
  show hG _ _ _ _ _ _ _ _ [some (.ref m), some (.ref fo9), some (.int dmp), none, none] _
  refine g_aload_n (q := 1) C dX6_dayOn_0 rfl (by first | exact hRef_r _ | exact hRef_o _ | exact hRef_n) rfl ?_
  refine g_get (q := 4) C hcl_X6 13 (by decide) qw_722 rfl dX6_dayOn_1 (by exact mM) rfl rfl ?_
  refine g_aload_n (q := 5) C dX6_dayOn_4 rfl (by first | exact hRef_r _ | exact hRef_o _ | exact hRef_n) rfl ?_
  refine g_callV1V (q := 8) C hy_X5_become (c_X5_become Γ l mA hd (by decide) hf ho4 (by omega) (Ne.symm hne)) qw_853 (by exact hd) rfl ⟨Nat.le_of_ble_eq_true rfl, Nat.le_of_ble_eq_true rfl⟩ (Nat.le_of_ble_eq_true rfl) rfl dX6_dayOn_5 ⟨rfl, rfl⟩ ⟨Nat.zero_le _, Nat.zero_le _⟩ rfl (fun M_5 p_5 => ?_)
  obtain ⟨G1, hA1, hR1, hR10, hd1, hO1⟩ := p_5
  have hm1 := (hO1 m (fun q => q.elim (fun ⟨c, hc, q⟩ => mA.ne hc mM q) (fun q => by rw [q, hd] at mM; cases mM))).trans mM
  have hf1 := (hO1 fo9 (fun q => q.elim (fun ⟨c, hc, q⟩ => mA.ne hc hf q) (fun q => hne q))).trans hf
  refine g_iconst (q := 9) (0) C dX6_dayOn_8 (by decide) rfl ?_
  refine g_istore3 (q := 10) C dX6_dayOn_9 (by first | rfl | exact hNw_rf _) rfl ?_
  refine h_loopU (P := fun k => ∀ (M2 : hM) (G2 : Nat → Nat → Int32) (o4 : Option Value), mdA Γ M2 ad G2 → M2 m = some (true, oModel th wi hs (some (ad 15)) (some (ad 16)) os (some (ad 17)) (some (ad 18)) (some (ad 19)) (some (ad 20)) gi (some s) (some ah) (some od)) → M2 fo9 = some (true, oSt ad o d9) → M2 od = some (true, oSt ad 10 d9) → hOff M M2 (fun a => onAd ad a ∨ a = fo9 ∨ a = od) → (∀ c, (c < o ∨ o + 5 ≤ c) → G2 c = G1 c) → (∀ i, i < 40 → rG G2 o i = if i < k then dyR G o B (vDay eH lH wi dmp B) i else rG G o i) → hG Γ k9 _ _ M2 0 0 10 [some (.ref m), some (.ref fo9), some (.int dmp), some (.int (nI k)), o4] []) (N := 40) (fun k hk ih => ?_) 0 (Nat.zero_le _) M_5 G1 none hA1 hm1 hf1 hd1 (hO1.wk (fun a q => q.imp id Or.inr)) (fun _ _ => rfl) (fun i hi => by rw [if_neg (Nat.not_lt_zero _)]; unfold rG; rw [hR1 _ (by omega), hR1 _ (by omega), hR1 _ (by omega), hR1 _ (by omega), hR1 _ (by omega)])
  intro M2 G2 o4 hA2 hm2 hf2 hd2 hO2 hRo hRw
  refine g_iload_n (q := 11) C dX6_dayOn_10 rfl rfl ?_
  refine g_bipush (q := 13) (40) C dX6_dayOn_11 (by decide) rfl ?_
  refine g_icmp_ge (t := 206) (q := 16) C dX6_dayOn_13 (by decide) rfl (fun c_13 => ?_) (fun c_13 => ?_)
  · skip
    have hN := nI_ge_eq hk (by decide) c_13
    subst hN
    refine g_aload_n (q := 207) C dX6_dayOn_206 rfl (by first | exact hRef_r _ | exact hRef_o _ | exact hRef_n) rfl ?_
    refine g_dup (q := 208) C dX6_dayOn_207 rfl rfl ?_
    refine g_getN (q := 211) C hcl_X5 0 (by decide) qw_684 rfl dX6_dayOn_208 (by exact hf2) rfl rfl ?_
    refine g_iconst (q := 212) (1) C dX6_dayOn_211 (by decide) rfl ?_
    refine g_iadd (q := 213) C dX6_dayOn_212 rfl ?_
    refine g_putN (q := 216) C hcl_X5 0 (by decide) qw_684 rfl rfl rfl rfl dX6_dayOn_213 (by exact hf2) (Nat.le_of_ble_eq_true rfl) rfl ?_
    (try rw [hU_2])
    exact g_vret C dX6_dayOn_216 (⟨G2, hA2.cell hf2 _, fun c hc => (hRo c (by omega)).trans (hR1 c (by omega)), fun c hc hc2 => (hRo c hc2).trans (hR1 c (by omega)), hV.day (fun i => vDay_1 _ _ _ _ _ _) (fun i hi => (hRw i hi).trans (if_pos hi)), hU_s _ _ _, (hU_n (Ne.symm hne)).trans hd2, hO2.put (Or.inr (Or.inl rfl))⟩) (Nat.zero_le _) (Nat.zero_le _)
  · skip
    have hlt := nI_nge_lt hk (by decide) c_13
    have e0 : rG G2 o k = rG G o k := (hRw k hlt).trans (if_neg (Nat.lt_irrefl _))
    have r0 : G2 o k = enc (B k).1 := (congrArg (fun z => z.1) e0).trans (hV k hlt).1
    have hT : bTak (vG G2 o k) = (B k).1.isSome := by show (dec (G2 o k)).isSome = _; rw [r0, dec_enc (fun j q => by have := hB k hlt j q; omega)]
    refine g_aload_n (q := 17) C dX6_dayOn_16 rfl (by first | exact hRef_r _ | exact hRef_o _ | exact hRef_n) rfl ?_
    refine g_iload_n (q := 18) C dX6_dayOn_17 rfl rfl ?_
    refine g_callV1P (q := 21) C hy_X5_hangs (c_X5_hangs Γ l k hA2 hf2 ho4 hlt) qw_778 (by exact hf2) rfl ⟨Nat.le_of_ble_eq_true rfl, Nat.le_of_ble_eq_true rfl⟩ (Nat.le_of_ble_eq_true rfl) rfl dX6_dayOn_18 ⟨rfl, rfl⟩ ⟨Nat.zero_le _, Nat.zero_le _⟩ rfl ?_
    refine g_ifB_ne (t := 27) (q := 24) C dX6_dayOn_21 (by decide) rfl (fun c_21 => ?_) (fun c_21 => ?_)
    · skip
      have ht : (B k).1.isSome = true := hT.symm.trans c_21
      obtain ⟨j, hj⟩ : ∃ j, (B k).1 = some j := Option.isSome_iff_exists.mp ht
      have hjn := hB k hlt j hj
      have rr : (G2 (o + 1) k, G2 (o + 2) k, G2 (o + 3) k, G2 (o + 4) k) = (B k).2 := (congrArg (fun z => z.2) e0).trans ((hV k hlt).2 (by rw [hj]; simp))
      have r1 : G2 (o + 1) k = (B k).2.1 := congrArg (fun z => z.1) rr
      have r2 : G2 (o + 2) k = (B k).2.2.1 := congrArg (fun z => z.2.1) rr
      have r3 : G2 (o + 3) k = (B k).2.2.2.1 := congrArg (fun z => z.2.2.1) rr
      have r4 : G2 (o + 4) k = (B k).2.2.2.2 := congrArg (fun z => z.2.2.2) rr
      have hcode : G2 o k = nI j := r0.trans (by rw [hj]; rfl)
      have hV2 : stV G2 10 B := hV.ofR (fun i hi => by rw [← hR10 i hi]; unfold rG; rw [hRo _ (by omega), hRo _ (by omega), hRo _ (by omega), hRo _ (by omega), hRo _ (by omega)])
      have R2 := hV2.rel hB hn
      obtain ⟨fo, hfo⟩ : ∃ x, x = dFrc (eH j) wi dmp B k := ⟨_, rfl⟩
      obtain ⟨F, hF⟩ : ∃ x, x = dFr (B k).2.1 fo := ⟨_, rfl⟩
      obtain ⟨Bk, hBk⟩ : ∃ x, x = dBk (B k).2.2.1 fo := ⟨_, rfl⟩
      obtain ⟨wd, hwd⟩ : ∃ x, x = dWd (lH j) F Bk (B k).2.2.2.1 := ⟨_, rfl⟩
      obtain ⟨mo, hmo⟩ : ∃ x, x = (B k).2.2.2.2 := ⟨_, rfl⟩
      rw [← hmo] at r4
      refine g_iconst (q := 28) (0) C dX6_dayOn_27 (by decide) rfl ?_
      refine g_aload_n (q := 29) C dX6_dayOn_28 rfl (by first | exact hRef_r _ | exact hRef_o _ | exact hRef_n) rfl ?_
      refine g_get (q := 32) C hcl_X6 3 (by decide) qw_712 rfl dX6_dayOn_29 (by exact hm2) rfl rfl ?_
      refine g_aload_n (q := 33) C dX6_dayOn_32 rfl (by first | exact hRef_r _ | exact hRef_o _ | exact hRef_n) rfl ?_
      refine g_getN (q := 36) C hcl_X5 1 (by decide) qw_686 rfl dX6_dayOn_33 (by exact hf2) rfl rfl ?_
      refine g_iload_n (q := 37) C dX6_dayOn_36 rfl rfl ?_
      refine g_iald (q := 38) C k rfl hlt (by decide) dX6_dayOn_37 (hA2.at0 (c := o) (by omega)) rfl ?_
      refine g_iald (q := 39) C j hcode (by omega) (by decide) dX6_dayOn_38 (hA2.at6 (c := 15) (by decide) (by decide)) rfl ?_
      refine g_top (eH j) (by rw [hRo 15 (by omega), hR1 15 (by omega)]; exact (hH j hjn).1) ?_
      refine g_iload_n (q := 40) C dX6_dayOn_39 rfl rfl ?_
      refine g_bipush (q := 42) (8) C dX6_dayOn_40 (by decide) rfl ?_
      refine g_idiv (q := 43) C dX6_dayOn_42 (by decide) rfl ?_
      refine g_top (nI (k / 8)) (dv8 hlt) ?_
      refine g_iadd (q := 44) C dX6_dayOn_43 rfl ?_
      refine g_iconst (q := 45) (2) C dX6_dayOn_44 (by decide) rfl ?_
      refine g_aload_n (q := 46) C dX6_dayOn_45 rfl (by first | exact hRef_r _ | exact hRef_o _ | exact hRef_n) rfl ?_
      refine g_get (q := 49) C hcl_X6 1 (by decide) qw_710 rfl dX6_dayOn_46 (by exact hm2) rfl rfl ?_
      refine g_imul (q := 50) C dX6_dayOn_49 rfl ?_
      refine g_iadd (q := 51) C dX6_dayOn_50 rfl ?_
      refine g_iload_n (q := 52) C dX6_dayOn_51 rfl rfl ?_
      refine g_isub (q := 53) C dX6_dayOn_52 rfl ?_
      refine g_aload_n (q := 54) C dX6_dayOn_53 rfl (by first | exact hRef_r _ | exact hRef_o _ | exact hRef_n) rfl ?_
      refine g_get (q := 57) C hcl_X6 13 (by decide) qw_722 rfl dX6_dayOn_54 (by exact hm2) rfl rfl ?_
      refine g_iload_n (q := 58) C dX6_dayOn_57 rfl rfl ?_
      refine g_callV1P (q := 61) C hy_X5_wetter (c_X5_wetter Γ l k hA2 hd2 (by decide) hlt) qw_861 (by exact hd2) rfl ⟨Nat.le_of_ble_eq_true rfl, Nat.le_of_ble_eq_true rfl⟩ (Nat.le_of_ble_eq_true rfl) rfl dX6_dayOn_58 ⟨rfl, rfl⟩ ⟨Nat.zero_le _, Nat.zero_le _⟩ rfl ?_
      refine g_isub (q := 62) C dX6_dayOn_61 rfl ?_
      refine g_max (q := 65) C qw_869 rfl dX6_dayOn_62 (by decide) (Nat.le_of_ble_eq_true rfl) (Nat.zero_le _) (Nat.zero_le _) rfl hw_max ?_
      refine g_top (fo) (by rw [R2.wes hlt ht]; exact hfo.symm) ?_
      refine g_istore4 (q := 67) C dX6_dayOn_65 (by first | rfl | exact hNw_rf _) rfl ?_
      refine g_aload_n (q := 68) C dX6_dayOn_67 rfl (by first | exact hRef_r _ | exact hRef_o _ | exact hRef_n) rfl ?_
      refine g_getN (q := 71) C hcl_X5 2 (by decide) qw_688 rfl dX6_dayOn_68 (by exact hf2) rfl rfl ?_
      refine g_iload_n (q := 72) C dX6_dayOn_71 rfl rfl ?_
      refine g_iconst (q := 73) (0) C dX6_dayOn_72 (by decide) rfl ?_
      refine g_aload_n (q := 74) C dX6_dayOn_73 rfl (by first | exact hRef_r _ | exact hRef_o _ | exact hRef_n) rfl ?_
      refine g_getN (q := 77) C hcl_X5 2 (by decide) qw_688 rfl dX6_dayOn_74 (by exact hf2) rfl rfl ?_
      refine g_iload_n (q := 78) C dX6_dayOn_77 rfl rfl ?_
      refine g_iald (q := 79) C k rfl hlt (by decide) dX6_dayOn_78 (hA2.at0 (c := o + 1) (by omega)) rfl ?_
      refine g_top ((B k).2.1) (r1) ?_
      refine g_iload (q := 81) C dX6_dayOn_79 rfl rfl ?_
      refine g_isub (q := 82) C dX6_dayOn_81 rfl ?_
      refine g_max (q := 85) C qw_869 rfl dX6_dayOn_82 (by decide) (Nat.le_of_ble_eq_true rfl) (Nat.zero_le _) (Nat.zero_le _) rfl hw_max ?_
      refine g_top (F) (hF.symm) ?_
      refine g_iast (q := 86) C k rfl hlt (by decide) dX6_dayOn_85 (hA2.at0 (c := o + 1) (by omega)) rfl ?_
      obtain ⟨G3, hA3, hk3, hoo3, -, hG3⟩ := hA2.sti (c := o + 1) (k := k) (by omega) F
      have hm3 := hk3 _ _ _ hm2
      have hf3 := hk3 _ _ _ hf2
      have hd3 := hk3 _ _ _ hd2
      have hO3 := hoo3 (fun a => onAd ad a ∨ a = fo9 ∨ a = od) M hO2 (Or.inl ⟨o + 1, by omega, rfl⟩)
      refine g_aload_n (q := 87) C dX6_dayOn_86 rfl (by first | exact hRef_r _ | exact hRef_o _ | exact hRef_n) rfl ?_
      refine g_getN (q := 90) C hcl_X5 3 (by decide) qw_690 rfl dX6_dayOn_87 (by exact hf3) rfl rfl ?_
      refine g_iload_n (q := 91) C dX6_dayOn_90 rfl rfl ?_
      refine g_iconst (q := 92) (0) C dX6_dayOn_91 (by decide) rfl ?_
      refine g_aload_n (q := 93) C dX6_dayOn_92 rfl (by first | exact hRef_r _ | exact hRef_o _ | exact hRef_n) rfl ?_
      refine g_getN (q := 96) C hcl_X5 3 (by decide) qw_690 rfl dX6_dayOn_93 (by exact hf3) rfl rfl ?_
      refine g_iload_n (q := 97) C dX6_dayOn_96 rfl rfl ?_
      refine g_iald (q := 98) C k rfl hlt (by decide) dX6_dayOn_97 (hA3.at0 (c := o + 2) (by omega)) rfl ?_
      refine g_top ((B k).2.2.1) (by rw [hG3, if_neg (fun q => by omega)]; exact r2) ?_
      refine g_iload (q := 100) C dX6_dayOn_98 rfl rfl ?_
      refine g_iconst (q := 101) (2) C dX6_dayOn_100 (by decide) rfl ?_
      refine g_idiv (q := 102) C dX6_dayOn_101 (by decide) rfl ?_
      refine g_isub (q := 103) C dX6_dayOn_102 rfl ?_
      refine g_max (q := 106) C qw_869 rfl dX6_dayOn_103 (by decide) (Nat.le_of_ble_eq_true rfl) (Nat.zero_le _) (Nat.zero_le _) rfl hw_max ?_
      refine g_top (Bk) (hBk.symm) ?_
      refine g_iast (q := 107) C k rfl hlt (by decide) dX6_dayOn_106 (hA3.at0 (c := o + 2) (by omega)) rfl ?_
      obtain ⟨G4, hA4, hk4, hoo4, -, hG4⟩ := hA3.sti (c := o + 2) (k := k) (by omega) Bk
      have hm4 := hk4 _ _ _ hm3
      have hf4 := hk4 _ _ _ hf3
      have hd4 := hk4 _ _ _ hd3
      have hO4 := hoo4 (fun a => onAd ad a ∨ a = fo9 ∨ a = od) M hO3 (Or.inl ⟨o + 2, by omega, rfl⟩)
      refine g_aload_n (q := 108) C dX6_dayOn_107 rfl (by first | exact hRef_r _ | exact hRef_o _ | exact hRef_n) rfl ?_
      refine g_getN (q := 111) C hcl_X5 4 (by decide) qw_692 rfl dX6_dayOn_108 (by exact hf4) rfl rfl ?_
      refine g_iload_n (q := 112) C dX6_dayOn_111 rfl rfl ?_
      refine g_aload_n (q := 113) C dX6_dayOn_112 rfl (by first | exact hRef_r _ | exact hRef_o _ | exact hRef_n) rfl ?_
      refine g_iload_n (q := 114) C dX6_dayOn_113 rfl rfl ?_
      refine g_callV1P (q := 117) C hy_X5_wetness (c_X5_wetness Γ l k hA4 hf4 ho4 hlt) qw_795 (by exact hf4) rfl ⟨Nat.le_of_ble_eq_true rfl, Nat.le_of_ble_eq_true rfl⟩ (Nat.le_of_ble_eq_true rfl) rfl dX6_dayOn_114 ⟨rfl, rfl⟩ ⟨Nat.zero_le _, Nat.zero_le _⟩ rfl ?_
      refine g_top ((F + Bk) / 2) (by show (G4 (o + 1) k + G4 (o + 2) k) / 2 = _; rw [hG4, if_neg (fun q => by omega), hG3, if_pos ⟨rfl, rfl⟩, hG4, if_pos ⟨rfl, rfl⟩]) ?_
      refine g_aload_n (q := 118) C dX6_dayOn_117 rfl (by first | exact hRef_r _ | exact hRef_o _ | exact hRef_n) rfl ?_
      refine g_get (q := 121) C hcl_X6 4 (by decide) qw_713 rfl dX6_dayOn_118 (by exact hm4) rfl rfl ?_
      refine g_aload_n (q := 122) C dX6_dayOn_121 rfl (by first | exact hRef_r _ | exact hRef_o _ | exact hRef_n) rfl ?_
      refine g_getN (q := 125) C hcl_X5 1 (by decide) qw_686 rfl dX6_dayOn_122 (by exact hf4) rfl rfl ?_
      refine g_iload_n (q := 126) C dX6_dayOn_125 rfl rfl ?_
      refine g_iald (q := 127) C k rfl hlt (by decide) dX6_dayOn_126 (hA4.at0 (c := o) (by omega)) rfl ?_
      refine g_iald (q := 128) C j (by rw [hG4, if_neg (fun q => by omega), hG3, if_neg (fun q => by omega)]; exact hcode) (by omega) (by decide) dX6_dayOn_127 (hA4.at6 (c := 16) (by decide) (by decide)) rfl ?_
      refine g_top (lH j) (by rw [hG4, if_neg (fun q => by omega), hG3, if_neg (fun q => by omega), hRo 16 (by omega), hR1 16 (by omega)]; exact (hH j hjn).2) ?_
      refine g_icmp_le (t := 142) (q := 131) C dX6_dayOn_128 (by decide) rfl (fun c_128 => ?_) (fun c_128 => ?_)
      · skip
        refine g_iconst (q := 143) (0) C dX6_dayOn_142 (by decide) rfl ?_
        refine g_top (wd) (hwd.trans (if_neg (Int32.not_lt.mpr c_128)) |>.symm) ?_
        refine g_iast (q := 144) C k rfl hlt (by decide) dX6_dayOn_143 (hA4.at0 (c := o + 3) (by omega)) rfl ?_
        obtain ⟨G5, hA5, hk5, hoo5, -, hG5⟩ := hA4.sti (c := o + 3) (k := k) (by omega) wd
        have hm5 := hk5 _ _ _ hm4
        have hf5 := hk5 _ _ _ hf4
        have hd5 := hk5 _ _ _ hd4
        have hO5 := hoo5 (fun a => onAd ad a ∨ a = fo9 ∨ a = od) M hO4 (Or.inl ⟨o + 3, by omega, rfl⟩)
        refine g_aload_n (q := 145) C dX6_dayOn_144 rfl (by first | exact hRef_r _ | exact hRef_o _ | exact hRef_n) rfl ?_
        refine g_getN (q := 148) C hcl_X5 4 (by decide) qw_692 rfl dX6_dayOn_145 (by exact hf5) rfl rfl ?_
        refine g_iload_n (q := 149) C dX6_dayOn_148 rfl rfl ?_
        refine g_iald (q := 150) C k rfl hlt (by decide) dX6_dayOn_149 (hA5.at0 (c := o + 3) (by omega)) rfl ?_
        refine g_top (wd) (by rw [hG5, if_pos ⟨rfl, rfl⟩]) ?_
        refine g_iconst (q := 151) (3) C dX6_dayOn_150 (by decide) rfl ?_
        refine g_icmp_lt (t := 173) (q := 154) C dX6_dayOn_151 (by decide) rfl (fun c_151 => ?_) (fun c_151 => ?_)
        · skip
          obtain ⟨mv, hmv⟩ : ∃ x, x = dM1 wd mo := ⟨_, rfl⟩
          have hmm : mv = mo := hmv.trans (if_neg (Int32.not_le.mpr c_151))
          have h5m : G5 (o + 4) k = mo := by rw [hG5, if_neg (fun q => by omega), hG4, if_neg (fun q => by omega), hG3, if_neg (fun q => by omega)]; exact r4
          obtain ⟨G6, hA6, hm6, hf6, hd6, hO6, hG6⟩ : ∃ G6, mdA Γ _ ad G6 ∧ _ ∧ _ ∧ _ ∧ _ ∧ ∀ c i, G6 c i = if c = o + 4 ∧ i = k then mv else G5 c i := ⟨G5, hA5, hm5, hf5, hd5, hO5, fun c i => by by_cases e : c = o + 4 ∧ i = k; (rw [if_pos e, e.1, e.2, h5m]; exact hmm.symm); (rw [if_neg e])⟩
          have hG6k : G6 (o + 4) k = mv := by rw [hG6, if_pos ⟨rfl, rfl⟩]
          refine g_aload_n (q := 174) C dX6_dayOn_173 rfl (by first | exact hRef_r _ | exact hRef_o _ | exact hRef_n) rfl ?_
          refine g_getN (q := 177) C hcl_X5 5 (by decide) qw_694 rfl dX6_dayOn_174 (by exact hf6) rfl rfl ?_
          refine g_iload_n (q := 178) C dX6_dayOn_177 rfl rfl ?_
          refine g_iald (q := 179) C k rfl hlt (by decide) dX6_dayOn_178 (hA6.at0 (c := o + 4) (by omega)) rfl ?_
          refine g_top (mv) (hG6k) ?_
          refine g_if_ne (t := 200) (q := 182) C dX6_dayOn_179 (by decide) rfl (fun c_179 => ?_) (fun c_179 => ?_)
          · skip
            have hM2v : mv = dM2 (dM1 wd (B k).2.2.2.2) (nSp B k) := by rw [← hmo, ← hmv]; exact (if_neg (fun q => c_179 q.1)).symm
            refine g_iinc3 (q := 203) (1) C dX6_dayOn_200 (by decide) (by first | rfl | exact hNw_rf _) rfl ?_
            refine g_goto (t := 10) C dX6_dayOn_203 (by decide) ?_
            rw [nI_1]
            refine ih hlt _ _ _ hA6 hm6 hf6 hd6 hO6 (fun c hc => ?_) (fun i hi => ?_)
            · rw [← hRo c hc]
              funext i
              simp only [hG6, hG5, hG4, hG3]
              rw [if_neg (fun q => by omega), if_neg (fun q => by omega), if_neg (fun q => by omega), if_neg (fun q => by omega)]
            · by_cases e1 : i = k
              · subst e1
                rw [if_pos (Nat.lt_succ_self _)]
                unfold dyR
                rw [if_pos (by rw [hj]; rfl), vDay_s hj]
                show rG G6 o i = (enc (B i).1, dFr (B i).2.1 (dFrc (eH j) wi dmp B i), dBk (B i).2.2.1 (dFrc (eH j) wi dmp B i), dWd (lH j) (dFr (B i).2.1 (dFrc (eH j) wi dmp B i)) (dBk (B i).2.2.1 (dFrc (eH j) wi dmp B i)) (B i).2.2.2.1, dM2 (dM1 (dWd (lH j) (dFr (B i).2.1 (dFrc (eH j) wi dmp B i)) (dBk (B i).2.2.1 (dFrc (eH j) wi dmp B i)) (B i).2.2.2.1) (B i).2.2.2.2) (nSp B i))
                rw [← hfo, ← hF, ← hBk, ← hwd, ← r0, ← hM2v]
                unfold rG
                simp [hG6, hG5, hG4, hG3]
              · have e2 := hRw i hi
                refine Eq.trans ?_ (e2.trans (ifc9 ⟨fun q => by omega, fun q => by omega⟩))
                unfold rG
                simp [hG6, hG5, hG4, hG3, e1]
          · skip
            have hV6 : stV G6 10 B := hV2.ofR (fun i hi => by unfold rG; simp only [hG6, hG5, hG4, hG3]; rw [if_neg (fun q => by omega), if_neg (fun q => by omega), if_neg (fun q => by omega), if_neg (fun q => by omega), if_neg (fun q => by omega), if_neg (fun q => by omega), if_neg (fun q => by omega), if_neg (fun q => by omega), if_neg (fun q => by omega), if_neg (fun q => by omega), if_neg (fun q => by omega), if_neg (fun q => by omega), if_neg (fun q => by omega), if_neg (fun q => by omega), if_neg (fun q => by omega), if_neg (fun q => by omega), if_neg (fun q => by omega), if_neg (fun q => by omega), if_neg (fun q => by omega), if_neg (fun q => by omega)])
            have hsp : nSp (vG G6 10) k = nSp B k := (hV6.rel hB hn).nSpe hlt
            refine g_aload_n (q := 183) C dX6_dayOn_182 rfl (by first | exact hRef_r _ | exact hRef_o _ | exact hRef_n) rfl ?_
            refine g_get (q := 186) C hcl_X6 13 (by decide) qw_722 rfl dX6_dayOn_183 (by exact hm6) rfl rfl ?_
            refine g_iload_n (q := 187) C dX6_dayOn_186 rfl rfl ?_
            refine g_callV1P (q := 190) C hy_X5_isBesideBad (c_X5_isBesideBad Γ l k hA6 hd6 (by decide) hlt) qw_871 (by exact hd6) rfl ⟨Nat.le_of_ble_eq_true rfl, Nat.le_of_ble_eq_true rfl⟩ (Nat.le_of_ble_eq_true rfl) rfl dX6_dayOn_187 ⟨rfl, rfl⟩ ⟨Nat.zero_le _, Nat.zero_le _⟩ rfl ?_
            refine g_ifB_eq (t := 200) (q := 193) C dX6_dayOn_190 (by decide) rfl (fun c_190 => ?_) (fun c_190 => ?_)
            · skip
              have hM2v : mv = dM2 (dM1 wd (B k).2.2.2.2) (nSp B k) := by rw [← hmo, ← hmv]; exact (if_neg (fun q => by rw [← hsp, c_190] at q; cases q.2)).symm
              refine g_iinc3 (q := 203) (1) C dX6_dayOn_200 (by decide) (by first | rfl | exact hNw_rf _) rfl ?_
              refine g_goto (t := 10) C dX6_dayOn_203 (by decide) ?_
              rw [nI_1]
              refine ih hlt _ _ _ hA6 hm6 hf6 hd6 hO6 (fun c hc => ?_) (fun i hi => ?_)
              · rw [← hRo c hc]
                funext i
                simp only [hG6, hG5, hG4, hG3]
                rw [if_neg (fun q => by omega), if_neg (fun q => by omega), if_neg (fun q => by omega), if_neg (fun q => by omega)]
              · by_cases e1 : i = k
                · subst e1
                  rw [if_pos (Nat.lt_succ_self _)]
                  unfold dyR
                  rw [if_pos (by rw [hj]; rfl), vDay_s hj]
                  show rG G6 o i = (enc (B i).1, dFr (B i).2.1 (dFrc (eH j) wi dmp B i), dBk (B i).2.2.1 (dFrc (eH j) wi dmp B i), dWd (lH j) (dFr (B i).2.1 (dFrc (eH j) wi dmp B i)) (dBk (B i).2.2.1 (dFrc (eH j) wi dmp B i)) (B i).2.2.2.1, dM2 (dM1 (dWd (lH j) (dFr (B i).2.1 (dFrc (eH j) wi dmp B i)) (dBk (B i).2.2.1 (dFrc (eH j) wi dmp B i)) (B i).2.2.2.1) (B i).2.2.2.2) (nSp B i))
                  rw [← hfo, ← hF, ← hBk, ← hwd, ← r0, ← hM2v]
                  unfold rG
                  simp [hG6, hG5, hG4, hG3]
                · have e2 := hRw i hi
                  refine Eq.trans ?_ (e2.trans (ifc9 ⟨fun q => by omega, fun q => by omega⟩))
                  unfold rG
                  simp [hG6, hG5, hG4, hG3, e1]
            · skip
              have hM2v : (1 : Int32) = dM2 (dM1 wd (B k).2.2.2.2) (nSp B k) := by rw [← hmo, ← hmv]; exact (if_pos ⟨c_179, hsp.symm.trans c_190⟩).symm
              refine g_aload_n (q := 194) C dX6_dayOn_193 rfl (by first | exact hRef_r _ | exact hRef_o _ | exact hRef_n) rfl ?_
              refine g_getN (q := 197) C hcl_X5 5 (by decide) qw_694 rfl dX6_dayOn_194 (by exact hf6) rfl rfl ?_
              refine g_iload_n (q := 198) C dX6_dayOn_197 rfl rfl ?_
              refine g_iconst (q := 199) (1) C dX6_dayOn_198 (by decide) rfl ?_
              refine g_iast (q := 200) C k rfl hlt (by decide) dX6_dayOn_199 (hA6.at0 (c := o + 4) (by omega)) rfl ?_
              obtain ⟨G7, hA7, hk7, hoo7, -, hG7⟩ := hA6.sti (c := o + 4) (k := k) (by omega) 1
              have hm7 := hk7 _ _ _ hm6
              have hf7 := hk7 _ _ _ hf6
              have hd7 := hk7 _ _ _ hd6
              have hO7 := hoo7 (fun a => onAd ad a ∨ a = fo9 ∨ a = od) M hO6 (Or.inl ⟨o + 4, by omega, rfl⟩)
              refine g_iinc3 (q := 203) (1) C dX6_dayOn_200 (by decide) (by first | rfl | exact hNw_rf _) rfl ?_
              refine g_goto (t := 10) C dX6_dayOn_203 (by decide) ?_
              rw [nI_1]
              refine ih hlt _ _ _ hA7 hm7 hf7 hd7 hO7 (fun c hc => ?_) (fun i hi => ?_)
              · rw [← hRo c hc]
                funext i
                simp only [hG7, hG6, hG5, hG4, hG3]
                rw [if_neg (fun q => by omega), if_neg (fun q => by omega), if_neg (fun q => by omega), if_neg (fun q => by omega), if_neg (fun q => by omega)]
              · by_cases e1 : i = k
                · subst e1
                  rw [if_pos (Nat.lt_succ_self _)]
                  unfold dyR
                  rw [if_pos (by rw [hj]; rfl), vDay_s hj]
                  show rG G7 o i = (enc (B i).1, dFr (B i).2.1 (dFrc (eH j) wi dmp B i), dBk (B i).2.2.1 (dFrc (eH j) wi dmp B i), dWd (lH j) (dFr (B i).2.1 (dFrc (eH j) wi dmp B i)) (dBk (B i).2.2.1 (dFrc (eH j) wi dmp B i)) (B i).2.2.2.1, dM2 (dM1 (dWd (lH j) (dFr (B i).2.1 (dFrc (eH j) wi dmp B i)) (dBk (B i).2.2.1 (dFrc (eH j) wi dmp B i)) (B i).2.2.2.1) (B i).2.2.2.2) (nSp B i))
                  rw [← hfo, ← hF, ← hBk, ← hwd, ← r0, ← hM2v]
                  unfold rG
                  simp [hG7, hG6, hG5, hG4, hG3]
                · have e2 := hRw i hi
                  refine Eq.trans ?_ (e2.trans (ifc9 ⟨fun q => by omega, fun q => by omega⟩))
                  unfold rG
                  simp [hG7, hG6, hG5, hG4, hG3, e1]
        · skip
          refine g_aload_n (q := 155) C dX6_dayOn_154 rfl (by first | exact hRef_r _ | exact hRef_o _ | exact hRef_n) rfl ?_
          refine g_getN (q := 158) C hcl_X5 5 (by decide) qw_694 rfl dX6_dayOn_155 (by exact hf5) rfl rfl ?_
          refine g_iload_n (q := 159) C dX6_dayOn_158 rfl rfl ?_
          refine g_bipush (q := 161) (9) C dX6_dayOn_159 (by decide) rfl ?_
          refine g_aload_n (q := 162) C dX6_dayOn_161 rfl (by first | exact hRef_r _ | exact hRef_o _ | exact hRef_n) rfl ?_
          refine g_getN (q := 165) C hcl_X5 5 (by decide) qw_694 rfl dX6_dayOn_162 (by exact hf5) rfl rfl ?_
          refine g_iload_n (q := 166) C dX6_dayOn_165 rfl rfl ?_
          refine g_iald (q := 167) C k rfl hlt (by decide) dX6_dayOn_166 (hA5.at0 (c := o + 4) (by omega)) rfl ?_
          refine g_top (mo) (by rw [hG5, if_neg (fun q => by omega), hG4, if_neg (fun q => by omega), hG3, if_neg (fun q => by omega)]; exact r4) ?_
          refine g_iconst (q := 168) (1) C dX6_dayOn_167 (by decide) rfl ?_
          refine g_iadd (q := 169) C dX6_dayOn_168 rfl ?_
          refine g_min (q := 172) C qw_870 rfl dX6_dayOn_169 (by decide) (Nat.le_of_ble_eq_true rfl) (Nat.zero_le _) (Nat.zero_le _) rfl hw_min ?_
          obtain ⟨mv, hmv⟩ : ∃ x, x = dM1 wd mo := ⟨_, rfl⟩
          refine g_top (mv) (hmv.trans (if_pos (Int32.not_lt.mp c_151)) |>.symm) ?_
          refine g_iast (q := 173) C k rfl hlt (by decide) dX6_dayOn_172 (hA5.at0 (c := o + 4) (by omega)) rfl ?_
          obtain ⟨G6, hA6, hk6, hoo6, -, hG6⟩ := hA5.sti (c := o + 4) (k := k) (by omega) mv
          have hm6 := hk6 _ _ _ hm5
          have hf6 := hk6 _ _ _ hf5
          have hd6 := hk6 _ _ _ hd5
          have hO6 := hoo6 (fun a => onAd ad a ∨ a = fo9 ∨ a = od) M hO5 (Or.inl ⟨o + 4, by omega, rfl⟩)
          have hG6k : G6 (o + 4) k = mv := by rw [hG6, if_pos ⟨rfl, rfl⟩]
          refine g_aload_n (q := 174) C dX6_dayOn_173 rfl (by first | exact hRef_r _ | exact hRef_o _ | exact hRef_n) rfl ?_
          refine g_getN (q := 177) C hcl_X5 5 (by decide) qw_694 rfl dX6_dayOn_174 (by exact hf6) rfl rfl ?_
          refine g_iload_n (q := 178) C dX6_dayOn_177 rfl rfl ?_
          refine g_iald (q := 179) C k rfl hlt (by decide) dX6_dayOn_178 (hA6.at0 (c := o + 4) (by omega)) rfl ?_
          refine g_top (mv) (hG6k) ?_
          refine g_if_ne (t := 200) (q := 182) C dX6_dayOn_179 (by decide) rfl (fun c_179 => ?_) (fun c_179 => ?_)
          · skip
            have hM2v : mv = dM2 (dM1 wd (B k).2.2.2.2) (nSp B k) := by rw [← hmo, ← hmv]; exact (if_neg (fun q => c_179 q.1)).symm
            refine g_iinc3 (q := 203) (1) C dX6_dayOn_200 (by decide) (by first | rfl | exact hNw_rf _) rfl ?_
            refine g_goto (t := 10) C dX6_dayOn_203 (by decide) ?_
            rw [nI_1]
            refine ih hlt _ _ _ hA6 hm6 hf6 hd6 hO6 (fun c hc => ?_) (fun i hi => ?_)
            · rw [← hRo c hc]
              funext i
              simp only [hG6, hG5, hG4, hG3]
              rw [if_neg (fun q => by omega), if_neg (fun q => by omega), if_neg (fun q => by omega), if_neg (fun q => by omega)]
            · by_cases e1 : i = k
              · subst e1
                rw [if_pos (Nat.lt_succ_self _)]
                unfold dyR
                rw [if_pos (by rw [hj]; rfl), vDay_s hj]
                show rG G6 o i = (enc (B i).1, dFr (B i).2.1 (dFrc (eH j) wi dmp B i), dBk (B i).2.2.1 (dFrc (eH j) wi dmp B i), dWd (lH j) (dFr (B i).2.1 (dFrc (eH j) wi dmp B i)) (dBk (B i).2.2.1 (dFrc (eH j) wi dmp B i)) (B i).2.2.2.1, dM2 (dM1 (dWd (lH j) (dFr (B i).2.1 (dFrc (eH j) wi dmp B i)) (dBk (B i).2.2.1 (dFrc (eH j) wi dmp B i)) (B i).2.2.2.1) (B i).2.2.2.2) (nSp B i))
                rw [← hfo, ← hF, ← hBk, ← hwd, ← r0, ← hM2v]
                unfold rG
                simp [hG6, hG5, hG4, hG3]
              · have e2 := hRw i hi
                refine Eq.trans ?_ (e2.trans (ifc9 ⟨fun q => by omega, fun q => by omega⟩))
                unfold rG
                simp [hG6, hG5, hG4, hG3, e1]
          · skip
            have hV6 : stV G6 10 B := hV2.ofR (fun i hi => by unfold rG; simp only [hG6, hG5, hG4, hG3]; rw [if_neg (fun q => by omega), if_neg (fun q => by omega), if_neg (fun q => by omega), if_neg (fun q => by omega), if_neg (fun q => by omega), if_neg (fun q => by omega), if_neg (fun q => by omega), if_neg (fun q => by omega), if_neg (fun q => by omega), if_neg (fun q => by omega), if_neg (fun q => by omega), if_neg (fun q => by omega), if_neg (fun q => by omega), if_neg (fun q => by omega), if_neg (fun q => by omega), if_neg (fun q => by omega), if_neg (fun q => by omega), if_neg (fun q => by omega), if_neg (fun q => by omega), if_neg (fun q => by omega)])
            have hsp : nSp (vG G6 10) k = nSp B k := (hV6.rel hB hn).nSpe hlt
            refine g_aload_n (q := 183) C dX6_dayOn_182 rfl (by first | exact hRef_r _ | exact hRef_o _ | exact hRef_n) rfl ?_
            refine g_get (q := 186) C hcl_X6 13 (by decide) qw_722 rfl dX6_dayOn_183 (by exact hm6) rfl rfl ?_
            refine g_iload_n (q := 187) C dX6_dayOn_186 rfl rfl ?_
            refine g_callV1P (q := 190) C hy_X5_isBesideBad (c_X5_isBesideBad Γ l k hA6 hd6 (by decide) hlt) qw_871 (by exact hd6) rfl ⟨Nat.le_of_ble_eq_true rfl, Nat.le_of_ble_eq_true rfl⟩ (Nat.le_of_ble_eq_true rfl) rfl dX6_dayOn_187 ⟨rfl, rfl⟩ ⟨Nat.zero_le _, Nat.zero_le _⟩ rfl ?_
            refine g_ifB_eq (t := 200) (q := 193) C dX6_dayOn_190 (by decide) rfl (fun c_190 => ?_) (fun c_190 => ?_)
            · skip
              have hM2v : mv = dM2 (dM1 wd (B k).2.2.2.2) (nSp B k) := by rw [← hmo, ← hmv]; exact (if_neg (fun q => by rw [← hsp, c_190] at q; cases q.2)).symm
              refine g_iinc3 (q := 203) (1) C dX6_dayOn_200 (by decide) (by first | rfl | exact hNw_rf _) rfl ?_
              refine g_goto (t := 10) C dX6_dayOn_203 (by decide) ?_
              rw [nI_1]
              refine ih hlt _ _ _ hA6 hm6 hf6 hd6 hO6 (fun c hc => ?_) (fun i hi => ?_)
              · rw [← hRo c hc]
                funext i
                simp only [hG6, hG5, hG4, hG3]
                rw [if_neg (fun q => by omega), if_neg (fun q => by omega), if_neg (fun q => by omega), if_neg (fun q => by omega)]
              · by_cases e1 : i = k
                · subst e1
                  rw [if_pos (Nat.lt_succ_self _)]
                  unfold dyR
                  rw [if_pos (by rw [hj]; rfl), vDay_s hj]
                  show rG G6 o i = (enc (B i).1, dFr (B i).2.1 (dFrc (eH j) wi dmp B i), dBk (B i).2.2.1 (dFrc (eH j) wi dmp B i), dWd (lH j) (dFr (B i).2.1 (dFrc (eH j) wi dmp B i)) (dBk (B i).2.2.1 (dFrc (eH j) wi dmp B i)) (B i).2.2.2.1, dM2 (dM1 (dWd (lH j) (dFr (B i).2.1 (dFrc (eH j) wi dmp B i)) (dBk (B i).2.2.1 (dFrc (eH j) wi dmp B i)) (B i).2.2.2.1) (B i).2.2.2.2) (nSp B i))
                  rw [← hfo, ← hF, ← hBk, ← hwd, ← r0, ← hM2v]
                  unfold rG
                  simp [hG6, hG5, hG4, hG3]
                · have e2 := hRw i hi
                  refine Eq.trans ?_ (e2.trans (ifc9 ⟨fun q => by omega, fun q => by omega⟩))
                  unfold rG
                  simp [hG6, hG5, hG4, hG3, e1]
            · skip
              have hM2v : (1 : Int32) = dM2 (dM1 wd (B k).2.2.2.2) (nSp B k) := by rw [← hmo, ← hmv]; exact (if_pos ⟨c_179, hsp.symm.trans c_190⟩).symm
              refine g_aload_n (q := 194) C dX6_dayOn_193 rfl (by first | exact hRef_r _ | exact hRef_o _ | exact hRef_n) rfl ?_
              refine g_getN (q := 197) C hcl_X5 5 (by decide) qw_694 rfl dX6_dayOn_194 (by exact hf6) rfl rfl ?_
              refine g_iload_n (q := 198) C dX6_dayOn_197 rfl rfl ?_
              refine g_iconst (q := 199) (1) C dX6_dayOn_198 (by decide) rfl ?_
              refine g_iast (q := 200) C k rfl hlt (by decide) dX6_dayOn_199 (hA6.at0 (c := o + 4) (by omega)) rfl ?_
              obtain ⟨G7, hA7, hk7, hoo7, -, hG7⟩ := hA6.sti (c := o + 4) (k := k) (by omega) 1
              have hm7 := hk7 _ _ _ hm6
              have hf7 := hk7 _ _ _ hf6
              have hd7 := hk7 _ _ _ hd6
              have hO7 := hoo7 (fun a => onAd ad a ∨ a = fo9 ∨ a = od) M hO6 (Or.inl ⟨o + 4, by omega, rfl⟩)
              refine g_iinc3 (q := 203) (1) C dX6_dayOn_200 (by decide) (by first | rfl | exact hNw_rf _) rfl ?_
              refine g_goto (t := 10) C dX6_dayOn_203 (by decide) ?_
              rw [nI_1]
              refine ih hlt _ _ _ hA7 hm7 hf7 hd7 hO7 (fun c hc => ?_) (fun i hi => ?_)
              · rw [← hRo c hc]
                funext i
                simp only [hG7, hG6, hG5, hG4, hG3]
                rw [if_neg (fun q => by omega), if_neg (fun q => by omega), if_neg (fun q => by omega), if_neg (fun q => by omega), if_neg (fun q => by omega)]
              · by_cases e1 : i = k
                · subst e1
                  rw [if_pos (Nat.lt_succ_self _)]
                  unfold dyR
                  rw [if_pos (by rw [hj]; rfl), vDay_s hj]
                  show rG G7 o i = (enc (B i).1, dFr (B i).2.1 (dFrc (eH j) wi dmp B i), dBk (B i).2.2.1 (dFrc (eH j) wi dmp B i), dWd (lH j) (dFr (B i).2.1 (dFrc (eH j) wi dmp B i)) (dBk (B i).2.2.1 (dFrc (eH j) wi dmp B i)) (B i).2.2.2.1, dM2 (dM1 (dWd (lH j) (dFr (B i).2.1 (dFrc (eH j) wi dmp B i)) (dBk (B i).2.2.1 (dFrc (eH j) wi dmp B i)) (B i).2.2.2.1) (B i).2.2.2.2) (nSp B i))
                  rw [← hfo, ← hF, ← hBk, ← hwd, ← r0, ← hM2v]
                  unfold rG
                  simp [hG7, hG6, hG5, hG4, hG3]
                · have e2 := hRw i hi
                  refine Eq.trans ?_ (e2.trans (ifc9 ⟨fun q => by omega, fun q => by omega⟩))
                  unfold rG
                  simp [hG7, hG6, hG5, hG4, hG3, e1]
      · skip
        refine g_aload_n (q := 132) C dX6_dayOn_131 rfl (by first | exact hRef_r _ | exact hRef_o _ | exact hRef_n) rfl ?_
        refine g_getN (q := 135) C hcl_X5 4 (by decide) qw_692 rfl dX6_dayOn_132 (by exact hf4) rfl rfl ?_
        refine g_iload_n (q := 136) C dX6_dayOn_135 rfl rfl ?_
        refine g_iald (q := 137) C k rfl hlt (by decide) dX6_dayOn_136 (hA4.at0 (c := o + 3) (by omega)) rfl ?_
        refine g_top ((B k).2.2.2.1) (by rw [hG4, if_neg (fun q => by omega), hG3, if_neg (fun q => by omega)]; exact r3) ?_
        refine g_iconst (q := 138) (1) C dX6_dayOn_137 (by decide) rfl ?_
        refine g_iadd (q := 139) C dX6_dayOn_138 rfl ?_
        refine g_goto (t := 143) C dX6_dayOn_139 (by decide) ?_
        refine g_top (wd) (hwd.trans (if_pos (Int32.not_le.mp c_128)) |>.symm) ?_
        refine g_iast (q := 144) C k rfl hlt (by decide) dX6_dayOn_143 (hA4.at0 (c := o + 3) (by omega)) rfl ?_
        obtain ⟨G5, hA5, hk5, hoo5, -, hG5⟩ := hA4.sti (c := o + 3) (k := k) (by omega) wd
        have hm5 := hk5 _ _ _ hm4
        have hf5 := hk5 _ _ _ hf4
        have hd5 := hk5 _ _ _ hd4
        have hO5 := hoo5 (fun a => onAd ad a ∨ a = fo9 ∨ a = od) M hO4 (Or.inl ⟨o + 3, by omega, rfl⟩)
        refine g_aload_n (q := 145) C dX6_dayOn_144 rfl (by first | exact hRef_r _ | exact hRef_o _ | exact hRef_n) rfl ?_
        refine g_getN (q := 148) C hcl_X5 4 (by decide) qw_692 rfl dX6_dayOn_145 (by exact hf5) rfl rfl ?_
        refine g_iload_n (q := 149) C dX6_dayOn_148 rfl rfl ?_
        refine g_iald (q := 150) C k rfl hlt (by decide) dX6_dayOn_149 (hA5.at0 (c := o + 3) (by omega)) rfl ?_
        refine g_top (wd) (by rw [hG5, if_pos ⟨rfl, rfl⟩]) ?_
        refine g_iconst (q := 151) (3) C dX6_dayOn_150 (by decide) rfl ?_
        refine g_icmp_lt (t := 173) (q := 154) C dX6_dayOn_151 (by decide) rfl (fun c_151 => ?_) (fun c_151 => ?_)
        · skip
          obtain ⟨mv, hmv⟩ : ∃ x, x = dM1 wd mo := ⟨_, rfl⟩
          have hmm : mv = mo := hmv.trans (if_neg (Int32.not_le.mpr c_151))
          have h5m : G5 (o + 4) k = mo := by rw [hG5, if_neg (fun q => by omega), hG4, if_neg (fun q => by omega), hG3, if_neg (fun q => by omega)]; exact r4
          obtain ⟨G6, hA6, hm6, hf6, hd6, hO6, hG6⟩ : ∃ G6, mdA Γ _ ad G6 ∧ _ ∧ _ ∧ _ ∧ _ ∧ ∀ c i, G6 c i = if c = o + 4 ∧ i = k then mv else G5 c i := ⟨G5, hA5, hm5, hf5, hd5, hO5, fun c i => by by_cases e : c = o + 4 ∧ i = k; (rw [if_pos e, e.1, e.2, h5m]; exact hmm.symm); (rw [if_neg e])⟩
          have hG6k : G6 (o + 4) k = mv := by rw [hG6, if_pos ⟨rfl, rfl⟩]
          refine g_aload_n (q := 174) C dX6_dayOn_173 rfl (by first | exact hRef_r _ | exact hRef_o _ | exact hRef_n) rfl ?_
          refine g_getN (q := 177) C hcl_X5 5 (by decide) qw_694 rfl dX6_dayOn_174 (by exact hf6) rfl rfl ?_
          refine g_iload_n (q := 178) C dX6_dayOn_177 rfl rfl ?_
          refine g_iald (q := 179) C k rfl hlt (by decide) dX6_dayOn_178 (hA6.at0 (c := o + 4) (by omega)) rfl ?_
          refine g_top (mv) (hG6k) ?_
          refine g_if_ne (t := 200) (q := 182) C dX6_dayOn_179 (by decide) rfl (fun c_179 => ?_) (fun c_179 => ?_)
          · skip
            have hM2v : mv = dM2 (dM1 wd (B k).2.2.2.2) (nSp B k) := by rw [← hmo, ← hmv]; exact (if_neg (fun q => c_179 q.1)).symm
            refine g_iinc3 (q := 203) (1) C dX6_dayOn_200 (by decide) (by first | rfl | exact hNw_rf _) rfl ?_
            refine g_goto (t := 10) C dX6_dayOn_203 (by decide) ?_
            rw [nI_1]
            refine ih hlt _ _ _ hA6 hm6 hf6 hd6 hO6 (fun c hc => ?_) (fun i hi => ?_)
            · rw [← hRo c hc]
              funext i
              simp only [hG6, hG5, hG4, hG3]
              rw [if_neg (fun q => by omega), if_neg (fun q => by omega), if_neg (fun q => by omega), if_neg (fun q => by omega)]
            · by_cases e1 : i = k
              · subst e1
                rw [if_pos (Nat.lt_succ_self _)]
                unfold dyR
                rw [if_pos (by rw [hj]; rfl), vDay_s hj]
                show rG G6 o i = (enc (B i).1, dFr (B i).2.1 (dFrc (eH j) wi dmp B i), dBk (B i).2.2.1 (dFrc (eH j) wi dmp B i), dWd (lH j) (dFr (B i).2.1 (dFrc (eH j) wi dmp B i)) (dBk (B i).2.2.1 (dFrc (eH j) wi dmp B i)) (B i).2.2.2.1, dM2 (dM1 (dWd (lH j) (dFr (B i).2.1 (dFrc (eH j) wi dmp B i)) (dBk (B i).2.2.1 (dFrc (eH j) wi dmp B i)) (B i).2.2.2.1) (B i).2.2.2.2) (nSp B i))
                rw [← hfo, ← hF, ← hBk, ← hwd, ← r0, ← hM2v]
                unfold rG
                simp [hG6, hG5, hG4, hG3]
              · have e2 := hRw i hi
                refine Eq.trans ?_ (e2.trans (ifc9 ⟨fun q => by omega, fun q => by omega⟩))
                unfold rG
                simp [hG6, hG5, hG4, hG3, e1]
          · skip
            have hV6 : stV G6 10 B := hV2.ofR (fun i hi => by unfold rG; simp only [hG6, hG5, hG4, hG3]; rw [if_neg (fun q => by omega), if_neg (fun q => by omega), if_neg (fun q => by omega), if_neg (fun q => by omega), if_neg (fun q => by omega), if_neg (fun q => by omega), if_neg (fun q => by omega), if_neg (fun q => by omega), if_neg (fun q => by omega), if_neg (fun q => by omega), if_neg (fun q => by omega), if_neg (fun q => by omega), if_neg (fun q => by omega), if_neg (fun q => by omega), if_neg (fun q => by omega), if_neg (fun q => by omega), if_neg (fun q => by omega), if_neg (fun q => by omega), if_neg (fun q => by omega), if_neg (fun q => by omega)])
            have hsp : nSp (vG G6 10) k = nSp B k := (hV6.rel hB hn).nSpe hlt
            refine g_aload_n (q := 183) C dX6_dayOn_182 rfl (by first | exact hRef_r _ | exact hRef_o _ | exact hRef_n) rfl ?_
            refine g_get (q := 186) C hcl_X6 13 (by decide) qw_722 rfl dX6_dayOn_183 (by exact hm6) rfl rfl ?_
            refine g_iload_n (q := 187) C dX6_dayOn_186 rfl rfl ?_
            refine g_callV1P (q := 190) C hy_X5_isBesideBad (c_X5_isBesideBad Γ l k hA6 hd6 (by decide) hlt) qw_871 (by exact hd6) rfl ⟨Nat.le_of_ble_eq_true rfl, Nat.le_of_ble_eq_true rfl⟩ (Nat.le_of_ble_eq_true rfl) rfl dX6_dayOn_187 ⟨rfl, rfl⟩ ⟨Nat.zero_le _, Nat.zero_le _⟩ rfl ?_
            refine g_ifB_eq (t := 200) (q := 193) C dX6_dayOn_190 (by decide) rfl (fun c_190 => ?_) (fun c_190 => ?_)
            · skip
              have hM2v : mv = dM2 (dM1 wd (B k).2.2.2.2) (nSp B k) := by rw [← hmo, ← hmv]; exact (if_neg (fun q => by rw [← hsp, c_190] at q; cases q.2)).symm
              refine g_iinc3 (q := 203) (1) C dX6_dayOn_200 (by decide) (by first | rfl | exact hNw_rf _) rfl ?_
              refine g_goto (t := 10) C dX6_dayOn_203 (by decide) ?_
              rw [nI_1]
              refine ih hlt _ _ _ hA6 hm6 hf6 hd6 hO6 (fun c hc => ?_) (fun i hi => ?_)
              · rw [← hRo c hc]
                funext i
                simp only [hG6, hG5, hG4, hG3]
                rw [if_neg (fun q => by omega), if_neg (fun q => by omega), if_neg (fun q => by omega), if_neg (fun q => by omega)]
              · by_cases e1 : i = k
                · subst e1
                  rw [if_pos (Nat.lt_succ_self _)]
                  unfold dyR
                  rw [if_pos (by rw [hj]; rfl), vDay_s hj]
                  show rG G6 o i = (enc (B i).1, dFr (B i).2.1 (dFrc (eH j) wi dmp B i), dBk (B i).2.2.1 (dFrc (eH j) wi dmp B i), dWd (lH j) (dFr (B i).2.1 (dFrc (eH j) wi dmp B i)) (dBk (B i).2.2.1 (dFrc (eH j) wi dmp B i)) (B i).2.2.2.1, dM2 (dM1 (dWd (lH j) (dFr (B i).2.1 (dFrc (eH j) wi dmp B i)) (dBk (B i).2.2.1 (dFrc (eH j) wi dmp B i)) (B i).2.2.2.1) (B i).2.2.2.2) (nSp B i))
                  rw [← hfo, ← hF, ← hBk, ← hwd, ← r0, ← hM2v]
                  unfold rG
                  simp [hG6, hG5, hG4, hG3]
                · have e2 := hRw i hi
                  refine Eq.trans ?_ (e2.trans (ifc9 ⟨fun q => by omega, fun q => by omega⟩))
                  unfold rG
                  simp [hG6, hG5, hG4, hG3, e1]
            · skip
              have hM2v : (1 : Int32) = dM2 (dM1 wd (B k).2.2.2.2) (nSp B k) := by rw [← hmo, ← hmv]; exact (if_pos ⟨c_179, hsp.symm.trans c_190⟩).symm
              refine g_aload_n (q := 194) C dX6_dayOn_193 rfl (by first | exact hRef_r _ | exact hRef_o _ | exact hRef_n) rfl ?_
              refine g_getN (q := 197) C hcl_X5 5 (by decide) qw_694 rfl dX6_dayOn_194 (by exact hf6) rfl rfl ?_
              refine g_iload_n (q := 198) C dX6_dayOn_197 rfl rfl ?_
              refine g_iconst (q := 199) (1) C dX6_dayOn_198 (by decide) rfl ?_
              refine g_iast (q := 200) C k rfl hlt (by decide) dX6_dayOn_199 (hA6.at0 (c := o + 4) (by omega)) rfl ?_
              obtain ⟨G7, hA7, hk7, hoo7, -, hG7⟩ := hA6.sti (c := o + 4) (k := k) (by omega) 1
              have hm7 := hk7 _ _ _ hm6
              have hf7 := hk7 _ _ _ hf6
              have hd7 := hk7 _ _ _ hd6
              have hO7 := hoo7 (fun a => onAd ad a ∨ a = fo9 ∨ a = od) M hO6 (Or.inl ⟨o + 4, by omega, rfl⟩)
              refine g_iinc3 (q := 203) (1) C dX6_dayOn_200 (by decide) (by first | rfl | exact hNw_rf _) rfl ?_
              refine g_goto (t := 10) C dX6_dayOn_203 (by decide) ?_
              rw [nI_1]
              refine ih hlt _ _ _ hA7 hm7 hf7 hd7 hO7 (fun c hc => ?_) (fun i hi => ?_)
              · rw [← hRo c hc]
                funext i
                simp only [hG7, hG6, hG5, hG4, hG3]
                rw [if_neg (fun q => by omega), if_neg (fun q => by omega), if_neg (fun q => by omega), if_neg (fun q => by omega), if_neg (fun q => by omega)]
              · by_cases e1 : i = k
                · subst e1
                  rw [if_pos (Nat.lt_succ_self _)]
                  unfold dyR
                  rw [if_pos (by rw [hj]; rfl), vDay_s hj]
                  show rG G7 o i = (enc (B i).1, dFr (B i).2.1 (dFrc (eH j) wi dmp B i), dBk (B i).2.2.1 (dFrc (eH j) wi dmp B i), dWd (lH j) (dFr (B i).2.1 (dFrc (eH j) wi dmp B i)) (dBk (B i).2.2.1 (dFrc (eH j) wi dmp B i)) (B i).2.2.2.1, dM2 (dM1 (dWd (lH j) (dFr (B i).2.1 (dFrc (eH j) wi dmp B i)) (dBk (B i).2.2.1 (dFrc (eH j) wi dmp B i)) (B i).2.2.2.1) (B i).2.2.2.2) (nSp B i))
                  rw [← hfo, ← hF, ← hBk, ← hwd, ← r0, ← hM2v]
                  unfold rG
                  simp [hG7, hG6, hG5, hG4, hG3]
                · have e2 := hRw i hi
                  refine Eq.trans ?_ (e2.trans (ifc9 ⟨fun q => by omega, fun q => by omega⟩))
                  unfold rG
                  simp [hG7, hG6, hG5, hG4, hG3, e1]
        · skip
          refine g_aload_n (q := 155) C dX6_dayOn_154 rfl (by first | exact hRef_r _ | exact hRef_o _ | exact hRef_n) rfl ?_
          refine g_getN (q := 158) C hcl_X5 5 (by decide) qw_694 rfl dX6_dayOn_155 (by exact hf5) rfl rfl ?_
          refine g_iload_n (q := 159) C dX6_dayOn_158 rfl rfl ?_
          refine g_bipush (q := 161) (9) C dX6_dayOn_159 (by decide) rfl ?_
          refine g_aload_n (q := 162) C dX6_dayOn_161 rfl (by first | exact hRef_r _ | exact hRef_o _ | exact hRef_n) rfl ?_
          refine g_getN (q := 165) C hcl_X5 5 (by decide) qw_694 rfl dX6_dayOn_162 (by exact hf5) rfl rfl ?_
          refine g_iload_n (q := 166) C dX6_dayOn_165 rfl rfl ?_
          refine g_iald (q := 167) C k rfl hlt (by decide) dX6_dayOn_166 (hA5.at0 (c := o + 4) (by omega)) rfl ?_
          refine g_top (mo) (by rw [hG5, if_neg (fun q => by omega), hG4, if_neg (fun q => by omega), hG3, if_neg (fun q => by omega)]; exact r4) ?_
          refine g_iconst (q := 168) (1) C dX6_dayOn_167 (by decide) rfl ?_
          refine g_iadd (q := 169) C dX6_dayOn_168 rfl ?_
          refine g_min (q := 172) C qw_870 rfl dX6_dayOn_169 (by decide) (Nat.le_of_ble_eq_true rfl) (Nat.zero_le _) (Nat.zero_le _) rfl hw_min ?_
          obtain ⟨mv, hmv⟩ : ∃ x, x = dM1 wd mo := ⟨_, rfl⟩
          refine g_top (mv) (hmv.trans (if_pos (Int32.not_lt.mp c_151)) |>.symm) ?_
          refine g_iast (q := 173) C k rfl hlt (by decide) dX6_dayOn_172 (hA5.at0 (c := o + 4) (by omega)) rfl ?_
          obtain ⟨G6, hA6, hk6, hoo6, -, hG6⟩ := hA5.sti (c := o + 4) (k := k) (by omega) mv
          have hm6 := hk6 _ _ _ hm5
          have hf6 := hk6 _ _ _ hf5
          have hd6 := hk6 _ _ _ hd5
          have hO6 := hoo6 (fun a => onAd ad a ∨ a = fo9 ∨ a = od) M hO5 (Or.inl ⟨o + 4, by omega, rfl⟩)
          have hG6k : G6 (o + 4) k = mv := by rw [hG6, if_pos ⟨rfl, rfl⟩]
          refine g_aload_n (q := 174) C dX6_dayOn_173 rfl (by first | exact hRef_r _ | exact hRef_o _ | exact hRef_n) rfl ?_
          refine g_getN (q := 177) C hcl_X5 5 (by decide) qw_694 rfl dX6_dayOn_174 (by exact hf6) rfl rfl ?_
          refine g_iload_n (q := 178) C dX6_dayOn_177 rfl rfl ?_
          refine g_iald (q := 179) C k rfl hlt (by decide) dX6_dayOn_178 (hA6.at0 (c := o + 4) (by omega)) rfl ?_
          refine g_top (mv) (hG6k) ?_
          refine g_if_ne (t := 200) (q := 182) C dX6_dayOn_179 (by decide) rfl (fun c_179 => ?_) (fun c_179 => ?_)
          · skip
            have hM2v : mv = dM2 (dM1 wd (B k).2.2.2.2) (nSp B k) := by rw [← hmo, ← hmv]; exact (if_neg (fun q => c_179 q.1)).symm
            refine g_iinc3 (q := 203) (1) C dX6_dayOn_200 (by decide) (by first | rfl | exact hNw_rf _) rfl ?_
            refine g_goto (t := 10) C dX6_dayOn_203 (by decide) ?_
            rw [nI_1]
            refine ih hlt _ _ _ hA6 hm6 hf6 hd6 hO6 (fun c hc => ?_) (fun i hi => ?_)
            · rw [← hRo c hc]
              funext i
              simp only [hG6, hG5, hG4, hG3]
              rw [if_neg (fun q => by omega), if_neg (fun q => by omega), if_neg (fun q => by omega), if_neg (fun q => by omega)]
            · by_cases e1 : i = k
              · subst e1
                rw [if_pos (Nat.lt_succ_self _)]
                unfold dyR
                rw [if_pos (by rw [hj]; rfl), vDay_s hj]
                show rG G6 o i = (enc (B i).1, dFr (B i).2.1 (dFrc (eH j) wi dmp B i), dBk (B i).2.2.1 (dFrc (eH j) wi dmp B i), dWd (lH j) (dFr (B i).2.1 (dFrc (eH j) wi dmp B i)) (dBk (B i).2.2.1 (dFrc (eH j) wi dmp B i)) (B i).2.2.2.1, dM2 (dM1 (dWd (lH j) (dFr (B i).2.1 (dFrc (eH j) wi dmp B i)) (dBk (B i).2.2.1 (dFrc (eH j) wi dmp B i)) (B i).2.2.2.1) (B i).2.2.2.2) (nSp B i))
                rw [← hfo, ← hF, ← hBk, ← hwd, ← r0, ← hM2v]
                unfold rG
                simp [hG6, hG5, hG4, hG3]
              · have e2 := hRw i hi
                refine Eq.trans ?_ (e2.trans (ifc9 ⟨fun q => by omega, fun q => by omega⟩))
                unfold rG
                simp [hG6, hG5, hG4, hG3, e1]
          · skip
            have hV6 : stV G6 10 B := hV2.ofR (fun i hi => by unfold rG; simp only [hG6, hG5, hG4, hG3]; rw [if_neg (fun q => by omega), if_neg (fun q => by omega), if_neg (fun q => by omega), if_neg (fun q => by omega), if_neg (fun q => by omega), if_neg (fun q => by omega), if_neg (fun q => by omega), if_neg (fun q => by omega), if_neg (fun q => by omega), if_neg (fun q => by omega), if_neg (fun q => by omega), if_neg (fun q => by omega), if_neg (fun q => by omega), if_neg (fun q => by omega), if_neg (fun q => by omega), if_neg (fun q => by omega), if_neg (fun q => by omega), if_neg (fun q => by omega), if_neg (fun q => by omega), if_neg (fun q => by omega)])
            have hsp : nSp (vG G6 10) k = nSp B k := (hV6.rel hB hn).nSpe hlt
            refine g_aload_n (q := 183) C dX6_dayOn_182 rfl (by first | exact hRef_r _ | exact hRef_o _ | exact hRef_n) rfl ?_
            refine g_get (q := 186) C hcl_X6 13 (by decide) qw_722 rfl dX6_dayOn_183 (by exact hm6) rfl rfl ?_
            refine g_iload_n (q := 187) C dX6_dayOn_186 rfl rfl ?_
            refine g_callV1P (q := 190) C hy_X5_isBesideBad (c_X5_isBesideBad Γ l k hA6 hd6 (by decide) hlt) qw_871 (by exact hd6) rfl ⟨Nat.le_of_ble_eq_true rfl, Nat.le_of_ble_eq_true rfl⟩ (Nat.le_of_ble_eq_true rfl) rfl dX6_dayOn_187 ⟨rfl, rfl⟩ ⟨Nat.zero_le _, Nat.zero_le _⟩ rfl ?_
            refine g_ifB_eq (t := 200) (q := 193) C dX6_dayOn_190 (by decide) rfl (fun c_190 => ?_) (fun c_190 => ?_)
            · skip
              have hM2v : mv = dM2 (dM1 wd (B k).2.2.2.2) (nSp B k) := by rw [← hmo, ← hmv]; exact (if_neg (fun q => by rw [← hsp, c_190] at q; cases q.2)).symm
              refine g_iinc3 (q := 203) (1) C dX6_dayOn_200 (by decide) (by first | rfl | exact hNw_rf _) rfl ?_
              refine g_goto (t := 10) C dX6_dayOn_203 (by decide) ?_
              rw [nI_1]
              refine ih hlt _ _ _ hA6 hm6 hf6 hd6 hO6 (fun c hc => ?_) (fun i hi => ?_)
              · rw [← hRo c hc]
                funext i
                simp only [hG6, hG5, hG4, hG3]
                rw [if_neg (fun q => by omega), if_neg (fun q => by omega), if_neg (fun q => by omega), if_neg (fun q => by omega)]
              · by_cases e1 : i = k
                · subst e1
                  rw [if_pos (Nat.lt_succ_self _)]
                  unfold dyR
                  rw [if_pos (by rw [hj]; rfl), vDay_s hj]
                  show rG G6 o i = (enc (B i).1, dFr (B i).2.1 (dFrc (eH j) wi dmp B i), dBk (B i).2.2.1 (dFrc (eH j) wi dmp B i), dWd (lH j) (dFr (B i).2.1 (dFrc (eH j) wi dmp B i)) (dBk (B i).2.2.1 (dFrc (eH j) wi dmp B i)) (B i).2.2.2.1, dM2 (dM1 (dWd (lH j) (dFr (B i).2.1 (dFrc (eH j) wi dmp B i)) (dBk (B i).2.2.1 (dFrc (eH j) wi dmp B i)) (B i).2.2.2.1) (B i).2.2.2.2) (nSp B i))
                  rw [← hfo, ← hF, ← hBk, ← hwd, ← r0, ← hM2v]
                  unfold rG
                  simp [hG6, hG5, hG4, hG3]
                · have e2 := hRw i hi
                  refine Eq.trans ?_ (e2.trans (ifc9 ⟨fun q => by omega, fun q => by omega⟩))
                  unfold rG
                  simp [hG6, hG5, hG4, hG3, e1]
            · skip
              have hM2v : (1 : Int32) = dM2 (dM1 wd (B k).2.2.2.2) (nSp B k) := by rw [← hmo, ← hmv]; exact (if_pos ⟨c_179, hsp.symm.trans c_190⟩).symm
              refine g_aload_n (q := 194) C dX6_dayOn_193 rfl (by first | exact hRef_r _ | exact hRef_o _ | exact hRef_n) rfl ?_
              refine g_getN (q := 197) C hcl_X5 5 (by decide) qw_694 rfl dX6_dayOn_194 (by exact hf6) rfl rfl ?_
              refine g_iload_n (q := 198) C dX6_dayOn_197 rfl rfl ?_
              refine g_iconst (q := 199) (1) C dX6_dayOn_198 (by decide) rfl ?_
              refine g_iast (q := 200) C k rfl hlt (by decide) dX6_dayOn_199 (hA6.at0 (c := o + 4) (by omega)) rfl ?_
              obtain ⟨G7, hA7, hk7, hoo7, -, hG7⟩ := hA6.sti (c := o + 4) (k := k) (by omega) 1
              have hm7 := hk7 _ _ _ hm6
              have hf7 := hk7 _ _ _ hf6
              have hd7 := hk7 _ _ _ hd6
              have hO7 := hoo7 (fun a => onAd ad a ∨ a = fo9 ∨ a = od) M hO6 (Or.inl ⟨o + 4, by omega, rfl⟩)
              refine g_iinc3 (q := 203) (1) C dX6_dayOn_200 (by decide) (by first | rfl | exact hNw_rf _) rfl ?_
              refine g_goto (t := 10) C dX6_dayOn_203 (by decide) ?_
              rw [nI_1]
              refine ih hlt _ _ _ hA7 hm7 hf7 hd7 hO7 (fun c hc => ?_) (fun i hi => ?_)
              · rw [← hRo c hc]
                funext i
                simp only [hG7, hG6, hG5, hG4, hG3]
                rw [if_neg (fun q => by omega), if_neg (fun q => by omega), if_neg (fun q => by omega), if_neg (fun q => by omega), if_neg (fun q => by omega)]
              · by_cases e1 : i = k
                · subst e1
                  rw [if_pos (Nat.lt_succ_self _)]
                  unfold dyR
                  rw [if_pos (by rw [hj]; rfl), vDay_s hj]
                  show rG G7 o i = (enc (B i).1, dFr (B i).2.1 (dFrc (eH j) wi dmp B i), dBk (B i).2.2.1 (dFrc (eH j) wi dmp B i), dWd (lH j) (dFr (B i).2.1 (dFrc (eH j) wi dmp B i)) (dBk (B i).2.2.1 (dFrc (eH j) wi dmp B i)) (B i).2.2.2.1, dM2 (dM1 (dWd (lH j) (dFr (B i).2.1 (dFrc (eH j) wi dmp B i)) (dBk (B i).2.2.1 (dFrc (eH j) wi dmp B i)) (B i).2.2.2.1) (B i).2.2.2.2) (nSp B i))
                  rw [← hfo, ← hF, ← hBk, ← hwd, ← r0, ← hM2v]
                  unfold rG
                  simp [hG7, hG6, hG5, hG4, hG3]
                · have e2 := hRw i hi
                  refine Eq.trans ?_ (e2.trans (ifc9 ⟨fun q => by omega, fun q => by omega⟩))
                  unfold rG
                  simp [hG7, hG6, hG5, hG4, hG3, e1]
    · skip
      refine g_goto (t := 200) C dX6_dayOn_24 (by decide) ?_
      refine g_iinc3 (q := 203) (1) C dX6_dayOn_200 (by decide) (by first | rfl | exact hNw_rf _) rfl ?_
      refine g_goto (t := 10) C dX6_dayOn_203 (by decide) ?_
      rw [nI_1]
      refine ih hlt _ _ _ hA2 hm2 hf2 hd2 hO2 hRo (fun i hi => ?_)
      by_cases e1 : i = k
      · subst e1
        rw [e0, if_pos (Nat.lt_succ_self _)]
        unfold dyR
        rw [if_neg (by rw [hT.symm.trans c_21]; decide)]
      · rw [hRw i hi]
        exact ifc9 ⟨fun q => by omega, fun q => by omega⟩
