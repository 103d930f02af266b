set_option maxRecDepth 100000 in
set_option maxHeartbeats 40000000 in
theorem law_walk {Γ : hGam} {l : Launch} {k9 : hCtx} {nm : String} {A : Nat → Prop} {Q : State → Prop} (C : hC Γ l k9 RL nm cL_law 24 (some .boolean) room_1 A) (hl : l.stackTraces = false) {M : hM} {b N : Nat} {xs : Nat → Int32} {g0 : Nat → Option Nat} (hN : N ≤ 260) (hΓ : Γ.2.2.2 = (b, N, xs)) (hT : M Γ.2.2.1 = some (false, aO Γ 0 g0)) (hend : ∀ (M1 : hM) (n z pc : Nat) (L : List (Option Value)), n ≤ 893913 → z ≤ 6419885 → decode cL_law pc = .ok (.ireturn, 1) → hG Γ k9 A Q M1 n z pc L [.int 1]) : hG Γ k9 A Q M 0 0 0 [some (.ref b), none, none, none, none, none, none, none, none, none, none, none, none, none, none, none, none, none, none, none, none, none, none, none] [] := by
  refine g_new (q := 3) C hcl_X4 qw_31 qw_32 qw_10 hfs_X4 (by decide) (by decide) dL_law_0 rfl (fun x ex => ?_)
  refine g_dup (q := 4) C dL_law_3 rfl rfl ?_
  refine g_callI0Vm (q := 7) C hy_X4_init (c_X4_init Γ l (hU_s _ _ _) ((hU_n (fun q => by rw [q, ex] at hT; cases hT)).trans hT)) qw_33 ⟨Nat.le_of_ble_eq_true rfl, Nat.le_of_ble_eq_true rfl⟩ (Nat.le_of_ble_eq_true rfl) rfl dL_law_4 ⟨by decide, by decide⟩ rfl (fun M_4 p_4 => ?_)
  obtain ⟨lt1, kq1⟩ := p_4
  refine g_astore1 (q := 8) C dL_law_7 (by first | exact hRef_r _ | exact hRef_o _ | exact hRef_n) (by first | rfl | exact hNw_rf _) rfl ?_
  refine g_aload_n (q := 9) C dL_law_8 rfl (by first | exact hRef_r _ | exact hRef_o _ | exact hRef_n) rfl ?_
  refine g_aload_n (q := 10) C dL_law_9 rfl (by first | exact hRef_r _ | exact hRef_o _ | exact hRef_n) rfl ?_
  refine g_callS2Qm (q := 13) C hy_L_build (c_L_build Γ l hl hΓ hN lt1) qw_625 ⟨Nat.le_of_ble_eq_true rfl, Nat.le_of_ble_eq_true rfl⟩ (Nat.le_of_ble_eq_true rfl) rfl dL_law_10 ⟨by decide, by decide⟩ rfl (fun x_10 M_10 p_10 => ?_)
  obtain ⟨y, S, rfl, hLS⟩ := p_10
  refine g_astore2 (q := 14) C dL_law_13 (by first | exact hRef_r _ | exact hRef_o _ | exact hRef_n) (by first | rfl | exact hNw_rf _) rfl ?_
  refine g_aload_n (q := 15) C dL_law_14 rfl (by first | exact hRef_r _ | exact hRef_o _ | exact hRef_n) rfl ?_
  refine g_ifnonnullR (t := 20) C dL_law_15 (by decide) ?_
  refine g_iconst (q := 21) (0) C dL_law_20 (by decide) rfl ?_
  refine g_istore3 (q := 22) C dL_law_21 (by first | rfl | exact hNw_rf _) rfl ?_
  refine g_widen (n' := 300 + 750 * 0) (z' := 2000 + 6000 * 0) (by decide) (by decide) ?_
  refine h_loopU (P := fun tm => ∀ (M1 : hM) (S : hS) (o4 o5 o7 o8 o9 o10 o11 o12 o13 o14 o15 o16 o17 o18 o19 o20 o21 o22 o23 : Option Value), lawS Γ M1 x y S (46 * tm) → hG Γ k9 A Q M1 (300 + 750 * tm) (2000 + 6000 * tm) 22 [some (.ref b), some (.ref x), some (.ref y), some (.int (nI tm)), o4, o5, none, o7, o8, o9, o10, o11, o12, o13, o14, o15, o16, o17, o18, o19, o20, o21, o22, o23] []) (N := 12) (fun tm ht ih => ?_) 0 (Nat.zero_le _) _ S none none none none none none none none none none none none none none none none none none none hLS
  intro M1 S o4 o5 o7 o8 o9 o10 o11 o12 o13 o14 o15 o16 o17 o18 o19 o20 o21 o22 o23 hLS1
  refine g_iload_n (q := 23) C dL_law_22 rfl rfl ?_
  refine g_bipush (q := 25) (12) C dL_law_23 (by decide) rfl ?_
  refine g_icmp_ge (t := 1449) (q := 28) C dL_law_25 (by decide) rfl (fun c_25 => ?_) (fun c_25 => ?_)
  · skip
    have hNt := nI_ge_eq ht (by omega) c_25
    obtain ⟨hL, hS, hI, h0⟩ := id hLS1
    obtain ⟨ha, oa, la, ob, rx, bd, hQ⟩ := id hS
    refine g_aload_n (q := 1450) C dL_law_1449 rfl (by first | exact hRef_r _ | exact hRef_o _ | exact hRef_n) rfl ?_
    refine g_aload_n (q := 1451) C dL_law_1450 rfl (by first | exact hRef_r _ | exact hRef_o _ | exact hRef_n) rfl ?_
    refine g_callV1Im (q := 1454) C hy_X5_isSame (c_X5_isSame Γ l hL hS hI) qw_486 (by exact hQ.1) rfl ⟨Nat.le_of_ble_eq_true rfl, Nat.le_of_ble_eq_true rfl⟩ (Nat.le_of_ble_eq_true rfl) rfl dL_law_1451 ⟨by show 300 + 750 * tm + 60 ≤ 893913; omega, by show 2000 + 6000 * tm + 400 ≤ 6419885; omega⟩ rfl (fun x_1451 M_1451 p_1451 => ?_)
    subst p_1451
    exact hend _ _ _ _ _ (by show 300 + 750 * tm + 60 ≤ 893913; omega) (by show 2000 + 6000 * tm + 400 ≤ 6419885; omega) dL_law_1454
  · skip
    have hltt := nI_nge_lt ht (by omega) c_25
    have hlt := hltt
    refine g_aload_n (q := 29) C dL_law_28 rfl (by first | exact hRef_r _ | exact hRef_o _ | exact hRef_n) rfl ?_
    refine g_iload_n (q := 30) C dL_law_29 rfl rfl ?_
    refine g_callS2I (q := 33) C hy_L_cell (c_L_cell Γ l (j := tm) hΓ hN (by omega)) qw_504 ⟨Nat.le_of_ble_eq_true rfl, Nat.le_of_ble_eq_true rfl⟩ (Nat.le_of_ble_eq_true rfl) rfl dL_law_30 ⟨rfl, rfl⟩ ⟨by show _ ≤ 893913; omega, by show _ ≤ 6419885; omega⟩ rfl (fun x_30 M_30 p_30 => ?_)
    rw [p_30]
    refine g_iconst (q := 34) (2) C dL_law_33 (by decide) rfl ?_
    refine g_ishr (q := 35) C dL_law_34 rfl ?_
    refine g_bipush (q := 37) (53) C dL_law_35 (by decide) rfl ?_
    refine g_iload_n (q := 38) C dL_law_37 rfl rfl ?_
    refine g_imul (q := 39) C dL_law_38 rfl ?_
    refine g_iadd (q := 40) C dL_law_39 rfl ?_
    refine g_istore4 (q := 42) C dL_law_40 (by first | rfl | exact hNw_rf _) rfl ?_
    refine g_iconst (q := 43) (0) C dL_law_42 (by decide) rfl ?_
    refine g_istore5 (q := 45) C dL_law_43 (by first | rfl | exact hNw_rf _) rfl ?_
    obtain ⟨xv, exv⟩ : ∃ xv : Int32, xv = x_30 >>> (2 &&& 31) + 53 * nI tm := ⟨_, rfl⟩
    rw [← exv]
    refine g_widen (n' := 300 + 750 * tm + 200 * 0) (z' := 2000 + 6000 * tm + 1500 * 0) (by show _ ≤ 300 + 750 * tm + 200 * 0; omega) (by show _ ≤ 2000 + 6000 * tm + 1500 * 0; omega) ?_
    refine h_loopU (P := fun kk => ∀ (M2 : hM) (S2 : hS), lawS Γ M2 x y S2 (46 * tm + 15 * kk) → hG Γ k9 A Q M2 (300 + 750 * tm + 200 * kk) (2000 + 6000 * tm + 1500 * kk) 45 [some (.ref b), some (.ref x), some (.ref y), some (.int (nI tm)), some (.int xv), some (.int (nI kk)), none, o7, o8, o9, o10, o11, o12, o13, o14, o15, o16, o17, o18, o19, o20, o21, o22, o23] []) (N := 3) (fun kk hk ihk => ?_) 0 (Nat.zero_le _) M1 S hLS1
    intro M2 S2 hLS2
    obtain ⟨hL2, hS2, hI2, h02⟩ := id hLS2
    refine g_iload (q := 47) C dL_law_45 rfl rfl ?_
    refine g_iconst (q := 48) (3) C dL_law_47 (by decide) rfl ?_
    refine g_icmp_ge (t := 80) (q := 51) C dL_law_48 (by decide) rfl (fun c_48 => ?_) (fun c_48 => ?_)
    · skip
      have hNk := nI_ge_eq hk (by omega) c_48
      subst hNk
      obtain ⟨_, _, _, _, _, _, _, _, _, _, _, _, _, hLq2⟩ := id hL2
      refine g_aload_n (q := 81) C dL_law_80 rfl (by first | exact hRef_r _ | exact hRef_o _ | exact hRef_n) rfl ?_
      refine g_callV0L (q := 84) C hy_X4_digest (c_X4_digest Γ l hL2 hI2.inv) qw_451 (by exact hLq2.1) rfl ⟨Nat.le_of_ble_eq_true rfl, Nat.le_of_ble_eq_true rfl⟩ (Nat.le_of_ble_eq_true rfl) rfl dL_law_81 ⟨rfl, rfl⟩ ⟨by show _ ≤ 893913; omega, by show _ ≤ 6419885; omega⟩ rfl (fun x_81 M_81 p_81 => ?_)
      obtain ⟨v1, q9⟩ := p_81
      rw [q9]
      refine g_lstore5 (q := 86) C dL_law_84 (by first | rfl | exact hNw_rf _) rfl ?_
      refine law_86 C hl (by omega) (by omega) hLS2 (by omega) _ _ _ _ _ _ _ _ _ _ _ _ _ _ _ _ _ (fun M5 ta c8 c9 c10 p11 p12 hS5 hT5 e8 e9 e10 => ?_)
      refine law_391 C hl (by omega) (by omega) hS5 e8 e9 e10 _ _ _ _ _ _ _ _ _ _ _ _ _ ?_
      refine law_448 C hl (by omega) (by omega) hS5 hT5 v1 e8 e9 e10 _ _ _ _ _ _ _ _ _ _ _ _ _ (fun M6 p11 p12 p13 hS6 hT6 => ?_)
      refine law_590 C hl (by omega) (by omega) hS6 hT6 v1 _ _ _ _ _ _ _ _ _ _ (fun M7 p13 hS7 hT7 => ?_)
      refine law_627 C hl (by omega) (by omega) hS7 hT7 v1 _ _ _ _ _ _ _ _ _ _ (fun M8 p14 p15 p16 _ hS8 hT8 => ?_)
      refine law_832 C hl (by omega) (by omega) hS8 hT8 _ _ _ _ _ _ _ _ (fun M9 d p16 p17 hd hS9 hT9 => ?_)
      refine law_874 C hl (by omega) (by omega) hI2 (by omega) hd hS9 hT9 _ _ _ _ _ _ (fun M10 p18 p19 p20 p21 hS10 => ?_)
      refine law_1168 C hl (by omega) (by omega) hS10 _ _ _ _ _ _ _ _ _ _ _ _ (fun dg c18 c19 c20 e1 e2 e3 => ?_)
      refine law_1285 C hl (by omega) (by omega) hS10 e1 e2 e3 _ _ _ _ _ _ _ _ _ (fun M11 S11 p18 p19 p20 p21 p22 p23 _ hS11 => ?_)
      refine g_iinc3 (q := 1446) (1) C dL_law_1443 (by decide) (by first | rfl | exact hNw_rf _) rfl ?_
      refine g_goto (t := 22) C dL_law_1446 (by decide) ?_
      rw [nI_1]
      refine g_widen (n' := 300 + 750 * (tm + 1)) (z' := 2000 + 6000 * (tm + 1)) (by omega) (by omega) ?_
      exact ih hlt _ _ _ _ _ _ _ _ _ _ _ _ _ _ _ _ _ _ _ _ _ (by rw [show 46 * (tm + 1) = 46 * tm + 15 * 3 + 1 by omega]; exact hS11)
    · skip
      have hltk := nI_nge_lt hk (by omega) c_48
      refine g_aload_n (q := 52) C dL_law_51 rfl (by first | exact hRef_r _ | exact hRef_o _ | exact hRef_n) rfl ?_
      refine g_aload_n (q := 53) C dL_law_52 rfl (by first | exact hRef_r _ | exact hRef_o _ | exact hRef_n) rfl ?_
      refine g_iload (q := 55) C dL_law_53 rfl rfl ?_
      refine g_iconst (q := 56) (3) C dL_law_55 (by decide) rfl ?_
      refine g_iload (q := 58) C dL_law_56 rfl rfl ?_
      refine g_imul (q := 59) C dL_law_58 rfl ?_
      refine g_ishr (q := 60) C dL_law_59 rfl ?_
      refine g_bipush (q := 62) (29) C dL_law_60 (by decide) rfl ?_
      refine g_iload (q := 64) C dL_law_62 rfl rfl ?_
      refine g_imul (q := 65) C dL_law_64 rfl ?_
      refine g_iadd (q := 66) C dL_law_65 rfl ?_
      refine gx_callSW (As := [.ref x, .ref y, .int _]) C hy_L_act (c_L_act Γ l hl hL2 hS2 hI2 h02) qw_508 ⟨Nat.le_of_ble_eq_true rfl, Nat.le_of_ble_eq_true rfl⟩ (Nat.le_of_ble_eq_true rfl) rfl ⟨by show 300 + 750 * tm + 200 * kk + 200 ≤ 893913; omega, by show 2000 + 6000 * tm + 1500 * kk + 1500 ≤ 6419885; omega⟩ dL_law_66 rfl rfl (fun r M4 hp => ?_)
      obtain ⟨a9, rfl, rfl, S3, hS3⟩ := hp
      show hG _ _ _ _ _ _ _ _ _ [.int 1]
      refine g_if_ne (t := 74) (q := 72) C dL_law_69 (by decide) rfl (fun c_69 => ?_) (fun c_69 => ?_)
      · skip
        refine g_iinc5 (q := 77) (1) C dL_law_74 (by decide) (by first | rfl | exact hNw_rf _) rfl ?_
        refine g_goto (t := 45) C dL_law_77 (by decide) ?_
        rw [nI_1]
        refine g_widen (n' := 300 + 750 * tm + 200 * (kk + 1)) (z' := 2000 + 6000 * tm + 1500 * (kk + 1)) (by show 300 + 750 * tm + 200 * kk + 200 ≤ _; omega) (by show 2000 + 6000 * tm + 1500 * kk + 1500 ≤ _; omega) ?_
        exact ihk hltk _ _ (by rw [show 46 * tm + 15 * (kk + 1) = 46 * tm + 15 * kk + 15 by omega]; exact hS3)
      · skip
        exact absurd c_69 (by decide)
