set_option maxRecDepth 100000 in
set_option maxHeartbeats 4000000 in
theorem c_X4_mean (Γ : hGam) (l : Launch) {M : hM} {x : Nat} {S : hS} (hL0 : ltP Γ M x S) (hI : sInv S) : hMet Γ l yX4_mean cX4_mean 2 (some .double) rm_X4_mean [.ref x] M (hpF M (sMean S)) := by
  obtain ⟨hl9, ol, rk, tr, edh, edo, hb, ob, hk, hk2, V, V2, g0, hL⟩ := hL0
  have hLc := hL
  obtain ⟨pL, pT, pH, pO, nHO, nED, pR, pR2, nHK, hRV⟩ := hLc
  obtain ⟨pRs, FS, pF⟩ := pR
  obtain ⟨pRs2, FS2, pF2⟩ := pR2
  have hcn := RelV.cnt hRV
  have hsm := RelV.sum hRV
  refine hMet_of (by decide +kernel) (Nat.le_of_ble_eq_true rfl) (hCat_cons rfl hCat_nil) (fun k C => ?_)
  show hG _ _ _ _ _ _ _ _ [some (.ref x), none] _
  refine g_aload_n (q := 1) C dX4_mean_0 rfl (by first | exact hRef_r _ | exact hRef_o _ | exact hRef_n) rfl ?_
  refine g_get (q := 4) C hcl_X4 2 (by decide) qw_118 rfl dX4_mean_1 (by exact pL) rfl rfl ?_
  refine g_callV0P (q := 7) C hy_X3_bundles (c_X3_bundles Γ l pRs pF) qw_419 (by exact pRs.2.choose_spec.choose_spec.1) rfl ⟨Nat.le_of_ble_eq_true rfl, Nat.le_of_ble_eq_true rfl⟩ (Nat.le_of_ble_eq_true rfl) rfl dX4_mean_4 ⟨rfl, rfl⟩ ⟨Nat.zero_le _, Nat.zero_le _⟩ rfl ?_
  refine g_istore1 (q := 8) C dX4_mean_7 (by first | rfl | exact hNw_rf _) rfl ?_
  refine g_iload_n (q := 9) C dX4_mean_8 rfl rfl ?_
  refine g_if_ne (t := 14) (q := 12) C dX4_mean_9 (by decide) rfl (fun c_9 => ?_) (fun c_9 => ?_)
  · skip
    refine g_aload_n (q := 15) C dX4_mean_14 rfl (by first | exact hRef_r _ | exact hRef_o _ | exact hRef_n) rfl ?_
    refine g_get (q := 18) C hcl_X4 2 (by decide) qw_118 rfl dX4_mean_15 (by exact pL) rfl rfl ?_
    refine g_callV0P (q := 21) C hy_X3_sumOfWetness (c_X3_sumOfWetness Γ l pRs pF) qw_432 (by exact pRs.2.choose_spec.choose_spec.1) rfl ⟨Nat.le_of_ble_eq_true rfl, Nat.le_of_ble_eq_true rfl⟩ (Nat.le_of_ble_eq_true rfl) rfl dX4_mean_18 ⟨rfl, rfl⟩ ⟨Nat.zero_le _, Nat.zero_le _⟩ rfl ?_
    refine g_i2d (q := 22) C dX4_mean_21 rfl ?_
    refine g_iload_n (q := 23) C dX4_mean_22 rfl rfl ?_
    refine g_i2d (q := 24) C dX4_mean_23 rfl ?_
    refine g_ddiv (q := 25) C (by rw [hcn, hsm]; exact (mean_sm hI (fun q => c_9 (hcn.trans q))).n) dX4_mean_24 rfl ?_
    exact g_dret C dX4_mean_25 (⟨by unfold sMean; rw [if_neg (fun q => c_9 (hcn.trans q)), hcn, hsm], rfl⟩) (Nat.zero_le _) (Nat.zero_le _)
  · skip
    refine g_dconst0 (q := 13) C dX4_mean_12 rfl ?_
    exact g_dret C dX4_mean_13 (⟨by unfold sMean; rw [if_pos (hcn.symm.trans c_9)], rfl⟩) (Nat.zero_le _) (Nat.zero_le _)
theorem g_eqw {Γ : hGam} {k : hCtx} {A : Nat → Prop} {Q : State → Prop} {M M1 : hM} {n z pc : Nat} {L : List (Option Value)} {st : List Value} (h : M = M1) (kk : hG Γ k A Q M1 n z pc L st) : hG Γ k A Q M n z pc L st := h ▸ kk
def s0 : hS := ((0, fun _ => 0, fun _ => 0), (0, fun _ => 0, fun _ => 0, fun _ => 0, fun _ => 0), fun _ => emp, 0, 0)
theorem hKp.rk9 {M M1 : hM} {r : Nat} {e : va_E} (er : M r = none) (ho : hOff (hU M r e) M1 (fun a => a = r ∨ hU M r e a = none)) : hKp (fun _ => true) M M1 := fun a w e' ha _ => by
  have har : a ≠ r := fun q => by rw [q, er] at ha; cases ha
  have h2 : hU M r e a = some (w, e') := (hU_n har).trans ha
  refine (ho a (fun q => ?_)).trans h2
  rcases q with q | q
  · exact har q
  · rw [h2] at q; cases q
theorem lsP.nil {Γ : hGam} {M : hM} {a : Nat} {g0 : Nat → Option Nat} (h : M a = some (true, oList 0 (some Γ.2.2.1) 0)) (hT : M Γ.2.2.1 = some (false, aO Γ 0 g0)) (e : Nat → Nat) : lsP Γ M a Γ.2.2.1 0 e := ⟨0, false, 0, g0, h, hT, fun i hi => absurd hi (Nat.not_lt_zero i), by decide, Or.inl ⟨rfl, rfl, rfl, rfl⟩⟩
set_option maxRecDepth 100000 in
set_option maxHeartbeats 4000000 in
theorem c_X4_init (Γ : hGam) (l : Launch) {M : hM} {x : Nat} {g0 : Nat → Option Nat} (h0 : M x = some (true, oLoft none none none none 0 0)) (hT : M Γ.2.2.1 = some (false, aO Γ 0 g0)) : hMet Γ l yX4_init cX4_init 1 none rm_X4_init [.ref x] M (hpV (fun M1 => ltP Γ M1 x s0 ∧ hKp noCls M M1)) := by
  refine hMet_of (by decide +kernel) (Nat.le_of_ble_eq_true rfl) (hCat_cons rfl hCat_nil) (fun k C => ?_)
  show hG _ _ _ _ _ _ _ _ [some (.ref x)] _
  refine g_aload_n (q := 1) C dX4_init_0 rfl (by first | exact hRef_r _ | exact hRef_o _ | exact hRef_n) rfl ?_
  refine g_objInit (q := 4) C qw_36 qw_37 qw_38 rfl dX4_init_1 (by decide) (by decide) rfl ?_
  refine g_aload_n (q := 5) C dX4_init_4 rfl (by first | exact hRef_r _ | exact hRef_o _ | exact hRef_n) rfl ?_
  refine g_new (q := 8) C hcl_Jx4a65c qw_39 qw_40 qw_13 hfs_Jx4a65c (by decide) (by decide) dX4_init_5 rfl (fun b1 e_b1 => ?_)
  refine g_dup (q := 9) C dX4_init_8 rfl rfl ?_
  refine g_callI0V (q := 12) C hy_Jx4a65c_init_da8c8 (c_Jx4a65c_init_da8c8 Γ l (hU_s _ _ _)) qw_41 ⟨Nat.le_of_ble_eq_true rfl, Nat.le_of_ble_eq_true rfl⟩ (Nat.le_of_ble_eq_true rfl) rfl dX4_init_9 ⟨rfl, rfl⟩ ⟨(by decide), (by decide)⟩ rfl (fun M_9 p_9 => ?_)
  rw [hU_2] at p_9
  subst p_9
  refine g_putF (q := 15) C hcl_X4 0 (by decide) qw_116 rfl rfl rfl rfl (by first | rfl | exact narO _) (by first | rfl | exact fitsB _ | exact fitsO _) dX4_init_12 (by exact (hU_n (fun q => by rw [← q, h0] at e_b1; cases e_b1)).trans h0) (Nat.le_of_ble_eq_true rfl) rfl ?_
  (try rw [hU_2])
  obtain ⟨Ma, hMa⟩ : ∃ Ma, Ma = hU (hU M b1 (oList 0 (some Γ.2.2.1) 0)) x (oLoft (some b1) none none none 0 0) := ⟨_, rfl⟩
  refine g_eqw (M1 := Ma) hMa.symm ?_
  have a_x : Ma x = some (true, oLoft (some b1) none none none 0 0) := by rw [hMa]; exact hU_s _ _ _
  have n1x : b1 ≠ x := fun q => by rw [q, h0] at e_b1; cases e_b1
  have a_1 : Ma b1 = some (true, (oList 0 (some Γ.2.2.1) 0)) := by rw [hMa]; exact (hU_n n1x).trans (hU_s _ _ _)
  have a_k : hKp noLf M Ma := by rw [hMa]; exact (hKp.rf.new e_b1 : hKp noLf M (hU M b1 (oList 0 (some Γ.2.2.1) 0))).put ((hU_n (Ne.symm n1x)).trans h0) rfl
  refine g_aload_n (q := 16) C dX4_init_15 rfl (by first | exact hRef_r _ | exact hRef_o _ | exact hRef_n) rfl ?_
  refine g_new (q := 19) C hcl_Jx4a65c qw_39 qw_40 qw_13 hfs_Jx4a65c (by decide) (by decide) dX4_init_16 rfl (fun b2 e_b2 => ?_)
  refine g_dup (q := 20) C dX4_init_19 rfl rfl ?_
  refine g_callI0V (q := 23) C hy_Jx4a65c_init_da8c8 (c_Jx4a65c_init_da8c8 Γ l (hU_s _ _ _)) qw_41 ⟨Nat.le_of_ble_eq_true rfl, Nat.le_of_ble_eq_true rfl⟩ (Nat.le_of_ble_eq_true rfl) rfl dX4_init_20 ⟨rfl, rfl⟩ ⟨(by decide), (by decide)⟩ rfl (fun M_20 p_20 => ?_)
  rw [hU_2] at p_20
  subst p_20
  refine g_putF (q := 26) C hcl_X4 1 (by decide) qw_117 rfl rfl rfl rfl (by first | rfl | exact narO _) (by first | rfl | exact fitsB _ | exact fitsO _) dX4_init_23 (by exact (hU_n (fun q => by rw [← q, a_x] at e_b2; cases e_b2)).trans a_x) (Nat.le_of_ble_eq_true rfl) rfl ?_
  (try rw [hU_2])
  obtain ⟨Mb, hMb⟩ : ∃ Mb, Mb = hU (hU Ma b2 (oList 0 (some Γ.2.2.1) 0)) x (oLoft (some b1) (some b2) none none 0 0) := ⟨_, rfl⟩
  refine g_eqw (M1 := Mb) hMb.symm ?_
  have b_x : Mb x = some (true, oLoft (some b1) (some b2) none none 0 0) := by rw [hMb]; exact hU_s _ _ _
  have n2x : b2 ≠ x := fun q => by rw [q, a_x] at e_b2; cases e_b2
  have b_2 : Mb b2 = some (true, (oList 0 (some Γ.2.2.1) 0)) := by rw [hMb]; exact (hU_n n2x).trans (hU_s _ _ _)
  have b_k : hKp noLf Ma Mb := by rw [hMb]; exact (hKp.rf.new e_b2 : hKp noLf Ma (hU Ma b2 (oList 0 (some Γ.2.2.1) 0))).put ((hU_n (Ne.symm n2x)).trans a_x) rfl
  refine g_aload_n (q := 27) C dX4_init_26 rfl (by first | exact hRef_r _ | exact hRef_o _ | exact hRef_n) rfl ?_
  refine g_new (q := 30) C hcl_X3 qw_65 qw_66 qw_14 hfs_X3 (by decide) (by decide) dX4_init_27 rfl (fun r1 e_r1 => ?_)
  refine g_dup (q := 31) C dX4_init_30 rfl rfl ?_
  refine g_callI0Vm (q := 34) C hy_X3_init (c_X3_init Γ l (hU_s _ _ _)) qw_67 ⟨Nat.le_of_ble_eq_true rfl, Nat.le_of_ble_eq_true rfl⟩ (Nat.le_of_ble_eq_true rfl) rfl dX4_init_31 ⟨(by decide), (by decide)⟩ rfl (fun M_31 p_31 => ?_)
  obtain ⟨hk, c_s, c_f, c_n, c_o⟩ := p_31
  have c_a := hKp.rk9 e_r1 c_o
  have c_y := c_a _ _ _ b_x rfl
  refine g_putF (q := 37) C hcl_X4 2 (by decide) qw_118 rfl rfl rfl rfl (by first | rfl | exact narO _) (by first | rfl | exact fitsB _ | exact fitsO _) dX4_init_34 (by exact c_y) (Nat.le_of_ble_eq_true rfl) rfl ?_
  (try rw [hU_2])
  obtain ⟨Mc, hMc⟩ : ∃ Mc, Mc = hU M_31 x (oLoft (some b1) (some b2) (some r1) none 0 0) := ⟨_, rfl⟩
  refine g_eqw (M1 := Mc) hMc.symm ?_
  have c_x : Mc x = some (true, oLoft (some b1) (some b2) (some r1) none 0 0) := by rw [hMc]; exact hU_s _ _ _
  have c_p : hKp noLf M_31 Mc := by rw [hMc]; exact hKp.rf.put c_y rfl
  have c_k : hKp noLf Mb Mc := (c_a.wk (fun _ _ => rfl)).tr c_p
  have c_R : pRk Γ Mc r1 hk (fun _ => emp) := pRk.kp ⟨c_s, _, c_f⟩ c_p rfl rfl rfl
  refine g_aload_n (q := 38) C dX4_init_37 rfl (by first | exact hRef_r _ | exact hRef_o _ | exact hRef_n) rfl ?_
  refine g_new (q := 41) C hcl_X3 qw_65 qw_66 qw_14 hfs_X3 (by decide) (by decide) dX4_init_38 rfl (fun r2 e_r2 => ?_)
  refine g_dup (q := 42) C dX4_init_41 rfl rfl ?_
  refine g_callI0Vm (q := 45) C hy_X3_init (c_X3_init Γ l (hU_s _ _ _)) qw_67 ⟨Nat.le_of_ble_eq_true rfl, Nat.le_of_ble_eq_true rfl⟩ (Nat.le_of_ble_eq_true rfl) rfl dX4_init_42 ⟨(by decide), (by decide)⟩ rfl (fun M_42 p_42 => ?_)
  obtain ⟨hk2, d_s, d_f, d_n, d_o⟩ := p_42
  have d_a := hKp.rk9 e_r2 d_o
  have d_y := d_a _ _ _ c_x rfl
  refine g_putF (q := 48) C hcl_X4 3 (by decide) qw_119 rfl rfl rfl rfl (by first | rfl | exact narO _) (by first | rfl | exact fitsB _ | exact fitsO _) dX4_init_45 (by exact d_y) (Nat.le_of_ble_eq_true rfl) rfl ?_
  (try rw [hU_2])
  obtain ⟨Md, hMd⟩ : ∃ Md, Md = hU M_42 x (oLoft (some b1) (some b2) (some r1) (some r2) 0 0) := ⟨_, rfl⟩
  refine g_eqw (M1 := Md) hMd.symm ?_
  have d_x : Md x = some (true, oLoft (some b1) (some b2) (some r1) (some r2) 0 0) := by rw [hMd]; exact hU_s _ _ _
  have d_p : hKp noLf M_42 Md := by rw [hMd]; exact hKp.rf.put d_y rfl
  have d_k : hKp noLf Mc Md := (d_a.wk (fun _ _ => rfl)).tr d_p
  have d_R : pRk Γ Md r2 hk2 (fun _ => emp) := pRk.kp ⟨d_s, _, d_f⟩ d_p rfl rfl rfl
  have d_1 := ((b_k.tr c_k).tr d_k) _ _ _ a_1 rfl
  have d_2 := (c_k.tr d_k) _ _ _ b_2 rfl
  have d_T := (((a_k.tr b_k).tr c_k).tr d_k) _ _ _ hT rfl
  have hdis : ∀ i j, i < 40 → j < 40 → hk i = hk2 j → False := by
    intro i j hi hj q
    have c_z := c_R.2.choose_spec i hi
    have d_z := d_n j hj
    by_cases hr : hk2 j = r2
    · rw [hr, hU_s] at d_z; cases d_z
    · rw [hU_n hr, ← q, c_z] at d_z; cases d_z
  have hD : ltQ Γ Md x s0 b1 b2 r1 r2 Γ.2.2.1 Γ.2.2.1 (fun _ => 0) (fun _ => 0) hk hk2 (fun _ => emp) (fun _ => emp) g0 := ⟨d_x, d_T, ⟨lsP.nil d_1 d_T _, fun i hi => absurd hi (Nat.not_lt_zero i), fun i j hi => absurd hi (Nat.not_lt_zero i)⟩, ⟨lsP.nil d_2 d_T _, fun i hi => absurd hi (Nat.not_lt_zero i), fun i j hi => absurd hi (Nat.not_lt_zero i)⟩, (fun q => by rw [← q, a_1] at e_b2; cases e_b2), fun _ => rfl, c_R.kp d_k rfl rfl rfl, d_R, (fun i j hi hj q => hdis i j hi hj q), fun i hi => ⟨rfl, fun q => absurd rfl q⟩⟩
  refine g_aload_n (q := 49) C dX4_init_48 rfl (by first | exact hRef_r _ | exact hRef_o _ | exact hRef_n) rfl ?_
  refine g_iconst (q := 50) (0) C dX4_init_49 (by decide) rfl ?_
  refine g_put (q := 53) C hcl_X4 4 (by decide) qw_120 rfl rfl rfl rfl dX4_init_50 (by exact d_x) (Nat.le_of_ble_eq_true rfl) rfl ?_
  (try rw [hU_2])
  refine g_aload_n (q := 54) C dX4_init_53 rfl (by first | exact hRef_r _ | exact hRef_o _ | exact hRef_n) rfl ?_
  refine g_iconst (q := 55) (0) C dX4_init_54 (by decide) rfl ?_
  refine g_eqw (M1 := Md) (hU_same d_x) ?_
  refine g_put (q := 58) C hcl_X4 5 (by decide) qw_121 rfl rfl rfl rfl dX4_init_55 (by exact d_x) (Nat.le_of_ble_eq_true rfl) rfl ?_
  (try rw [hU_2])
  refine g_eqw (M1 := Md) (hU_same d_x) ?_
  exact g_vret C dX4_init_58 (by exact ⟨hD.P, (((a_k.tr b_k).tr c_k).tr d_k).c2⟩) (by decide) (by decide)
theorem sInv_0 : sInv s0 := by
  refine ⟨by decide, by decide, ?_, ?_, ?_⟩
  · intro i hi j hj
    have h9 : (none : Option Nat) = some j := hj
    cases h9
  · intro i hi; exact absurd hi (Nat.not_lt_zero i)
  · intro i hi; exact absurd hi (Nat.not_lt_zero i)
