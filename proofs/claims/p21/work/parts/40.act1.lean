abbrev rm_L_act : Room := { frames := 7, cells := 200, slots := 1500, locals := 134 }
theorem hy_L_act : hYW yL_act cL_act 12 (some .boolean) [(198, 211, 214, 35), (258, 267, 270, 35), (379, 392, 395, 35), (611, 629, 632, 35)] 3 := ⟨qw_510, qw_9, by decide, by decide +kernel, qw_509⟩
set_option maxRecDepth 100000 in
set_option maxHeartbeats 8000000 in
theorem act_650 {Γ : hGam} {l : Launch} {k9 : hCtx} {nm : String} {M : hM} (C : hC Γ l k9 RL nm cL_act 12 (some .boolean) rm_L_act (hA M (kS k9).heap.size)) (hl : l.stackTraces = false) (T : (kC k9).exceptionTable.toList = tableOf [(198, 211, 214, 35), (258, 267, 270, 35), (379, 392, 395, 35), (611, 629, 632, 35)]) {x y D t h : Nat} {S : hS} {xv : Int32} {ha oa la : Nat} {ob rx : Nat → Nat} {bd : Nat → Option Nat} (hLt : ltP Γ M x S) (hQ : smQ Γ M y S ha oa la ob rx bd) (hI : sI2 S D) (h0 : 0 < sN S) (ht : t < 5) (hh : h < 8) : hG Γ k9 (hA M (kS k9).heap.size) (hEnd Γ k9 M (hpI (fun a M1 => a = 1 ∧ ∃ S2, lawS Γ M1 x y S2 (D + 15))) rm_L_act.cells rm_L_act.slots) M 0 0 650 [some (.ref x), some (.ref y), some (.int xv), some (.int (nI t)), some (.int (nI h)), some (va_rf (bd (t * 8 + h))), none, none, none, none, none, none] [] := by
  have hn6 := hI.1.1
  have ho6 := hI.1.2
  obtain ⟨_, _, _, _, _, _, _, _, _, _, _, _, _, hLqt⟩ := id hLt
  have pL := hLqt.1
  obtain ⟨pX, pH, pO, pLs, pB⟩ := id hQ
  obtain ⟨lf, pLf, pRow⟩ := pLs.row
  obtain ⟨hr1, rf, hr2, hr3⟩ := pRow t ht
  have hix : t * 8 + h < 40 := by omega
  refine g_aload_n (q := 651) C dL_act_650 rfl (by first | exact hRef_r _ | exact hRef_o _ | exact hRef_n) rfl ?_
  refine g_callV0I (q := 654) C hy_X4_fill (c_X4_fill Γ l hLt hI.inv) qw_267 (by exact pL) rfl ⟨Nat.le_of_ble_eq_true rfl, Nat.le_of_ble_eq_true rfl⟩ (Nat.le_of_ble_eq_true rfl) rfl dL_act_651 ⟨rfl, rfl⟩ ⟨by decide, by decide⟩ rfl (fun x_651 M_651 p_651 => ?_)
  obtain ⟨v1, k2, k5⟩ := p_651
  have hS5 := smP.cls hQ.P hI k5
  obtain ⟨ha5, oa5, la5, ob5, rx5, bd5, hQ5⟩ := id hS5
  refine g_aload_n (q := 655) C dL_act_654 rfl (by first | exact hRef_r _ | exact hRef_o _ | exact hRef_n) rfl ?_
  refine g_callV0I (q := 658) C hy_X5_fill (c_X5_fill Γ l hS5 hI) qw_478 (by exact hQ5.1) rfl ⟨Nat.le_of_ble_eq_true rfl, Nat.le_of_ble_eq_true rfl⟩ (Nat.le_of_ble_eq_true rfl) rfl dL_act_655 ⟨rfl, rfl⟩ ⟨by decide, by decide⟩ rfl (fun x_655 M_655 p_655 => ?_)
  obtain ⟨v2, u1, u3⟩ := p_655
  have hL6 := k2.sim u3
  refine g_icmp_ne (t := 665) (q := 661) C dL_act_658 (by decide) rfl (fun c_658 => ?_) (fun c_658 => ?_)
  · skip
    exact absurd (v1.trans v2.symm) c_658
  · skip
    refine g_iconst (q := 662) (1) C dL_act_661 (by decide) rfl ?_
    refine g_goto (t := 666) C dL_act_662 (by decide) ?_
    exact g_zret C dL_act_666 (by first | rfl | exact hNarB _) (⟨rfl, _, hL6, u1, (hI.fill).mono (by omega), h0⟩) (by decide) (by decide)
set_option maxRecDepth 100000 in
set_option maxHeartbeats 8000000 in
theorem act_488 {Γ : hGam} {l : Launch} {k9 : hCtx} {nm : String} {M : hM} (C : hC Γ l k9 RL nm cL_act 12 (some .boolean) rm_L_act (hA M (kS k9).heap.size)) (hl : l.stackTraces = false) (T : (kC k9).exceptionTable.toList = tableOf [(198, 211, 214, 35), (258, 267, 270, 35), (379, 392, 395, 35), (611, 629, 632, 35)]) {x y D t h : Nat} {S : hS} {xv : Int32} {ha oa la : Nat} {ob rx : Nat → Nat} {bd : Nat → Option Nat} (hLt : ltP Γ M x S) (hQ : smQ Γ M y S ha oa la ob rx bd) (hI : sI2 S D) (h0 : 0 < sN S) (ht : t < 5) (hh : h < 8) : hG Γ k9 (hA M (kS k9).heap.size) (hEnd Γ k9 M (hpI (fun a M1 => a = 1 ∧ ∃ S2, lawS Γ M1 x y S2 (D + 15))) rm_L_act.cells rm_L_act.slots) M 0 0 488 [some (.ref x), some (.ref y), some (.int xv), some (.int (nI t)), some (.int (nI h)), some (va_rf (bd (t * 8 + h))), none, none, none, none, none, none] [] := by
  have hn6 := hI.1.1
  have ho6 := hI.1.2
  obtain ⟨_, _, _, _, _, _, _, _, _, _, _, _, _, hLqt⟩ := id hLt
  have pL := hLqt.1
  obtain ⟨pX, pH, pO, pLs, pB⟩ := id hQ
  obtain ⟨lf, pLf, pRow⟩ := pLs.row
  obtain ⟨hr1, rf, hr2, hr3⟩ := pRow t ht
  have hix : t * 8 + h < 40 := by omega
  refine g_aload_n (q := 489) C dL_act_488 rfl (by first | exact hRef_r _ | exact hRef_o _ | exact hRef_n) rfl ?_
  refine g_get (q := 492) C hcl_X5 1 (by decide) qw_637 rfl dL_act_489 (by exact pX) rfl rfl ?_
  refine g_istore7 (q := 494) C dL_act_492 (by first | rfl | exact hNw_rf _) rfl ?_
  refine g_aload_n (q := 495) C dL_act_494 rfl (by first | exact hRef_r _ | exact hRef_o _ | exact hRef_n) rfl ?_
  refine g_iload_n (q := 496) C dL_act_495 rfl rfl ?_
  refine g_iconst (q := 497) (5) C dL_act_496 (by decide) rfl ?_
  refine g_ishr (q := 498) C dL_act_497 rfl ?_
  refine g_iconst (q := 499) (4) C dL_act_498 (by decide) rfl ?_
  refine g_callS2I (q := 502) C hy_L_below (c_L_below Γ l (N := 4) (by decide) (by decide)) qw_500 ⟨Nat.le_of_ble_eq_true rfl, Nat.le_of_ble_eq_true rfl⟩ (Nat.le_of_ble_eq_true rfl) rfl dL_act_499 ⟨rfl, rfl⟩ ⟨by decide, by decide⟩ rfl (fun x_499 M_499 p_499 => ?_)
  obtain ⟨⟨w, hw, e_499⟩, q_499⟩ := p_499
  subst e_499
  rw [q_499]
  have kx : hKp noSx M (hU M y (oSim (sDay S) (nI w) (givn S) (some ha) (some oa) (some la))) := hKp.rf.put pX rfl
  have hL2 := hLt.kp kx rfl rfl rfl rfl rfl rfl ⟨rfl, rfl⟩ rfl
  obtain ⟨_, _, _, _, _, _, _, _, _, _, _, _, _, hLq2⟩ := id hL2
  have hS2 : smP Γ (hU M y (oSim (sDay S) (nI w) (givn S) (some ha) (some oa) (some la))) y (S.1, S.2.1, S.2.2.1, nI w, S.2.2.2.2) := ⟨ha, oa, la, ob, rx, bd, hU_s _ _ _, pH.kp kx rfl rfl, pO.kp kx rfl rfl, pLs.kp kx rfl rfl, pB.kp kx rfl⟩
  refine g_put (q := 505) C hcl_X5 1 (by decide) qw_637 rfl rfl rfl rfl dL_act_502 (by exact pX) (Nat.le_of_ble_eq_true rfl) rfl ?_
  (try rw [hU_2])
  refine g_aload_n (q := 506) C dL_act_505 rfl (by first | exact hRef_r _ | exact hRef_o _ | exact hRef_n) rfl ?_
  refine g_aload_n (q := 507) C dL_act_506 rfl (by first | exact hRef_r _ | exact hRef_o _ | exact hRef_n) rfl ?_
  refine g_get (q := 510) C hcl_X5 1 (by decide) qw_637 rfl dL_act_507 (by exact hU_s _ _ _) rfl rfl ?_
  refine g_callVX1I (q := 513) C hy_X4_setWindow (c_X4_setWindow Γ l (nI w) hl hL2 hI.inv) (thrN_no (by rw [sSetW_ok (by omega)])) qw_532 (by exact hLq2.1) rfl ⟨Nat.le_of_ble_eq_true rfl, Nat.le_of_ble_eq_true rfl⟩ (Nat.le_of_ble_eq_true rfl) rfl dL_act_510 ⟨by decide, by decide⟩ rfl (fun x_510 M_510 p_510 => ?_)
  rw [sSetW_ok (by omega)] at p_510
  obtain ⟨-, v1, k2, k5⟩ := p_510
  have hS3 := smP.cls hS2 (hI.win (by omega)) k5
  refine g_iload (q := 515) C dL_act_513 rfl rfl ?_
  refine g_icmp_ne (t := 522) (q := 518) C dL_act_515 (by decide) rfl (fun c_515 => ?_) (fun c_515 => ?_)
  · skip
    exact absurd v1 c_515
  · skip
    refine g_iconst (q := 519) (1) C dL_act_518 (by decide) rfl ?_
    refine g_goto (t := 523) C dL_act_519 (by decide) ?_
    exact g_zret C dL_act_523 (by first | rfl | exact hNarB _) (⟨rfl, _, k2, hS3, (hI.win (by omega)).mono (by omega), h0⟩) (by decide) (by decide)
set_option maxRecDepth 100000 in
set_option maxHeartbeats 8000000 in
theorem act_667 {Γ : hGam} {l : Launch} {k9 : hCtx} {nm : String} {M : hM} (C : hC Γ l k9 RL nm cL_act 12 (some .boolean) rm_L_act (hA M (kS k9).heap.size)) (hl : l.stackTraces = false) (T : (kC k9).exceptionTable.toList = tableOf [(198, 211, 214, 35), (258, 267, 270, 35), (379, 392, 395, 35), (611, 629, 632, 35)]) {x y D t h : Nat} {S : hS} {xv : Int32} {ha oa la : Nat} {ob rx : Nat → Nat} {bd : Nat → Option Nat} (hLt : ltP Γ M x S) (hQ : smQ Γ M y S ha oa la ob rx bd) (hI : sI2 S D) (h0 : 0 < sN S) (ht : t < 5) (hh : h < 8) : hG Γ k9 (hA M (kS k9).heap.size) (hEnd Γ k9 M (hpI (fun a M1 => a = 1 ∧ ∃ S2, lawS Γ M1 x y S2 (D + 15))) rm_L_act.cells rm_L_act.slots) M 0 0 667 [some (.ref x), some (.ref y), some (.int xv), some (.int (nI t)), some (.int (nI h)), some (va_rf (bd (t * 8 + h))), none, none, none, none, none, none] [] := by
  have hn6 := hI.1.1
  have ho6 := hI.1.2
  obtain ⟨_, _, _, _, _, _, _, _, _, _, _, _, _, hLqt⟩ := id hLt
  have pL := hLqt.1
  obtain ⟨pX, pH, pO, pLs, pB⟩ := id hQ
  obtain ⟨lf, pLf, pRow⟩ := pLs.row
  obtain ⟨hr1, rf, hr2, hr3⟩ := pRow t ht
  have hix : t * 8 + h < 40 := by omega
  refine g_iconst (q := 668) (1) C dL_act_667 (by decide) rfl ?_
  refine g_iload_n (q := 669) C dL_act_668 rfl rfl ?_
  refine g_iconst (q := 670) (5) C dL_act_669 (by decide) rfl ?_
  refine g_ishr (q := 671) C dL_act_670 rfl ?_
  refine g_iload_n (q := 672) C dL_act_671 rfl rfl ?_
  refine g_bipush (q := 674) (8) C dL_act_672 (by decide) rfl ?_
  refine g_ishr (q := 675) C dL_act_674 rfl ?_
  refine g_iconst (q := 676) (5) C dL_act_675 (by decide) rfl ?_
  refine g_callS2I (q := 679) C hy_L_below (c_L_below Γ l (N := 5) (by decide) (by decide)) qw_500 ⟨Nat.le_of_ble_eq_true rfl, Nat.le_of_ble_eq_true rfl⟩ (Nat.le_of_ble_eq_true rfl) rfl dL_act_676 ⟨rfl, rfl⟩ ⟨by decide, by decide⟩ rfl (fun x_676 M_676 p_676 => ?_)
  obtain ⟨⟨zz, hzz, e_676⟩, q_676⟩ := p_676
  subst e_676
  rw [q_676]
  refine g_if_ne (t := 687) (q := 682) C dL_act_679 (by decide) rfl (fun c_679 => ?_) (fun c_679 => ?_)
  · skip
    refine g_iconst (q := 688) (4) C dL_act_687 (by decide) rfl ?_
    refine g_callS2I (q := 691) C hy_L_below (c_L_below Γ l (N := 4) (by decide) (by decide)) qw_500 ⟨Nat.le_of_ble_eq_true rfl, Nat.le_of_ble_eq_true rfl⟩ (Nat.le_of_ble_eq_true rfl) rfl dL_act_688 ⟨rfl, rfl⟩ ⟨by decide, by decide⟩ rfl (fun x_688 M_688 p_688 => ?_)
    obtain ⟨⟨dj, hdj, e_688⟩, q_688⟩ := p_688
    subst e_688
    rw [q_688]
    obtain ⟨days, hd1, hd2, ed⟩ : ∃ days, 1 ≤ days ∧ days ≤ 15 ∧ (1 : Int32) + nI dj = nI days := ⟨1 + dj, by omega, by omega, nI_add 1 dj⟩
    refine g_iadd (q := 692) C dL_act_691 rfl ?_
    rw [ed]
    refine g_istore8 (q := 694) C dL_act_692 (by first | rfl | exact hNw_rf _) rfl ?_
    refine g_iload_n (q := 695) C dL_act_694 rfl rfl ?_
    refine g_iconst (q := 696) (3) C dL_act_695 (by decide) rfl ?_
    refine g_ishr (q := 697) C dL_act_696 rfl ?_
    refine g_bipush (q := 699) (10) C dL_act_697 (by decide) rfl ?_
    refine g_callS2I (q := 702) C hy_L_below (c_L_below Γ l (N := 10) (by decide) (by decide)) qw_500 ⟨Nat.le_of_ble_eq_true rfl, Nat.le_of_ble_eq_true rfl⟩ (Nat.le_of_ble_eq_true rfl) rfl dL_act_699 ⟨rfl, rfl⟩ ⟨by decide, by decide⟩ rfl (fun x_699 M_699 p_699 => ?_)
    obtain ⟨⟨d, hd, e_699⟩, q_699⟩ := p_699
    subst e_699
    rw [q_699]
    refine g_istore9 (q := 704) C dL_act_702 (by first | rfl | exact hNw_rf _) rfl ?_
    refine g_iconst (q := 705) (0) C dL_act_704 (by decide) rfl ?_
    refine g_istore10 (q := 707) C dL_act_705 (by first | rfl | exact hNw_rf _) rfl ?_
    refine g_widen (n' := 12 * 0) (z' := 90 * 0) (by decide) (by decide) ?_
    refine h_loopU (P := fun n => ∀ M3 : hM, ltP Γ M3 x S → smP Γ M3 y (goN S (nI d) n) → hG Γ k9 _ _ M3 (12 * n) (90 * n) 707 [some (.ref x), some (.ref y), some (.int xv), some (.int (nI t)), some (.int (nI h)), some (va_rf (bd (t * 8 + h))), none, none, some (.int (nI days)), some (.int (nI d)), some (.int (nI n)), none] []) (N := days) (fun n hn ih => ?_) 0 (Nat.zero_le _) _ hLt (by rw [goN_0]; exact hQ.P)
    intro M3 hLn hSn
    obtain ⟨_, _, _, _, _, _, _, _, _, _, _, _, _, hLqn⟩ := id hLn
    obtain ⟨ha5, oa5, la5, ob5, rx5, bd5, hQ5⟩ := id hSn
    refine g_iload (q := 709) C dL_act_707 rfl rfl ?_
    refine g_iload (q := 711) C dL_act_709 rfl rfl ?_
    refine g_icmp_ge (t := 726) (q := 714) C dL_act_711 (by decide) rfl (fun c_711 => ?_) (fun c_711 => ?_)
    · skip
      have hN := nI_ge_eq hn (by omega) c_711
      subst hN
      refine g_aload_n (q := 727) C dL_act_726 rfl (by first | exact hRef_r _ | exact hRef_o _ | exact hRef_n) rfl ?_
      refine g_iload (q := 729) C dL_act_727 rfl rfl ?_
      refine g_iload (q := 731) C dL_act_729 rfl rfl ?_
      refine g_callVX2I (q := 734) C hy_X4_pass (c_X4_pass Γ l (nI n) (nI d) hl hLn hI.inv) (thrN_no (by rw [sPass_ok hd1 (by omega) (by omega)])) qw_312 (by exact hLqn.1) rfl ⟨Nat.le_of_ble_eq_true rfl, Nat.le_of_ble_eq_true rfl⟩ (Nat.le_of_ble_eq_true rfl) rfl dL_act_731 ⟨by show 12 * n + 1 ≤ 200; omega, by show 90 * n + 6 ≤ 1500; omega⟩ rfl (fun x_731 M_731 p_731 => ?_)
      rw [sPass_ok hd1 (by omega) (by omega)] at p_731
      obtain ⟨-, v1, k2, k5⟩ := p_731
      have hS7 := smP.cls hSn (hI.goN (by omega) n) k5
      obtain ⟨ha7, oa7, la7, ob7, rx7, bd7, hQ7⟩ := id hS7
      refine g_aload_n (q := 735) C dL_act_734 rfl (by first | exact hRef_r _ | exact hRef_o _ | exact hRef_n) rfl ?_
      refine g_callV0Qm (q := 738) C hy_X5_sums (c_X5_sums Γ l hS7) qw_512 (by exact hQ7.1) rfl ⟨Nat.le_of_ble_eq_true rfl, Nat.le_of_ble_eq_true rfl⟩ (Nat.le_of_ble_eq_true rfl) rfl dL_act_735 ⟨by show 12 * n + 1 + 1 ≤ 200; omega, by show 90 * n + 6 + 3 ≤ 1500; omega⟩ rfl (fun x_735 M_735 p_735 => ?_)
      obtain ⟨sb, sf, rfl, e9, rfl, f0, f1, f2⟩ := p_735
      have kn : hKp (fun _ => true) M_731 (hU M_731 sb (aI Γ 3 sf)) := hKp.rf.new e9
      have hL8 := k2.kp kn rfl rfl rfl rfl rfl rfl ⟨rfl, rfl⟩ rfl
      have hS8 := hS7.kp kn simK_all hI.1.1 hI.1.2
      refine g_iconst (q := 739) (1) C dL_act_738 (by decide) rfl ?_
      refine g_iald (q := 740) C 1 rfl (by decide) (by decide) dL_act_739 (hU_s _ _ _) rfl ?_
      refine g_icmp_ne (t := 747) (q := 743) C dL_act_740 (by decide) rfl (fun c_740 => ?_) (fun c_740 => ?_)
      · skip
        exact absurd (v1.trans f1.symm) c_740
      · skip
        refine g_iconst (q := 744) (1) C dL_act_743 (by decide) rfl ?_
        refine g_goto (t := 748) C dL_act_744 (by decide) ?_
        exact g_zret C dL_act_748 (by first | rfl | exact hNarB _) (⟨rfl, _, hL8, hS8, (hI.goN (by omega) n).mono (by omega), h0⟩) (by show 12 * n + 1 + 1 ≤ 200; omega) (by show 90 * n + 6 + 3 ≤ 1500; omega)
    · skip
      have hlt := nI_nge_lt hn (by omega) c_711
      refine g_aload_n (q := 715) C dL_act_714 rfl (by first | exact hRef_r _ | exact hRef_o _ | exact hRef_n) rfl ?_
      refine g_iload (q := 717) C dL_act_715 rfl rfl ?_
      refine g_callV1Vm (q := 720) C hy_X5_go (c_X5_go Γ l hSn (hI.goN (by omega) n) (by omega)) qw_461 (by exact hQ5.1) rfl ⟨Nat.le_of_ble_eq_true rfl, Nat.le_of_ble_eq_true rfl⟩ (Nat.le_of_ble_eq_true rfl) rfl dL_act_717 ⟨by show 12 * n + 12 ≤ 200; omega, by show 90 * n + 90 ≤ 1500; omega⟩ rfl (fun M_717 p_717 => ?_)
      obtain ⟨u1, u3⟩ := p_717
      refine g_iinc10 (q := 723) (1) C dL_act_720 (by decide) (by first | rfl | exact hNw_rf _) rfl ?_
      refine g_goto (t := 707) C dL_act_723 (by decide) ?_
      rw [nI_1]
      refine g_widen (n' := 12 * (n + 1)) (z' := 90 * (n + 1)) (by show _ + 12 ≤ _; omega) (by show _ + 90 ≤ _; omega) ?_
      rw [goN_s] at u1
      exact ih hlt M_717 (hLn.sim u3) u1
  · skip
    refine g_bipush (q := 684) (15) C dL_act_682 (by decide) rfl ?_
    refine g_goto (t := 688) C dL_act_684 (by decide) ?_
    refine g_callS2I (q := 691) C hy_L_below (c_L_below Γ l (N := 15) (by decide) (by decide)) qw_500 ⟨Nat.le_of_ble_eq_true rfl, Nat.le_of_ble_eq_true rfl⟩ (Nat.le_of_ble_eq_true rfl) rfl dL_act_688 ⟨rfl, rfl⟩ ⟨by decide, by decide⟩ rfl (fun x_688 M_688 p_688 => ?_)
    obtain ⟨⟨dj, hdj, e_688⟩, q_688⟩ := p_688
    subst e_688
    rw [q_688]
    obtain ⟨days, hd1, hd2, ed⟩ : ∃ days, 1 ≤ days ∧ days ≤ 15 ∧ (1 : Int32) + nI dj = nI days := ⟨1 + dj, by omega, by omega, nI_add 1 dj⟩
    refine g_iadd (q := 692) C dL_act_691 rfl ?_
    rw [ed]
    refine g_istore8 (q := 694) C dL_act_692 (by first | rfl | exact hNw_rf _) rfl ?_
    refine g_iload_n (q := 695) C dL_act_694 rfl rfl ?_
    refine g_iconst (q := 696) (3) C dL_act_695 (by decide) rfl ?_
    refine g_ishr (q := 697) C dL_act_696 rfl ?_
    refine g_bipush (q := 699) (10) C dL_act_697 (by decide) rfl ?_
    refine g_callS2I (q := 702) C hy_L_below (c_L_below Γ l (N := 10) (by decide) (by decide)) qw_500 ⟨Nat.le_of_ble_eq_true rfl, Nat.le_of_ble_eq_true rfl⟩ (Nat.le_of_ble_eq_true rfl) rfl dL_act_699 ⟨rfl, rfl⟩ ⟨by decide, by decide⟩ rfl (fun x_699 M_699 p_699 => ?_)
    obtain ⟨⟨d, hd, e_699⟩, q_699⟩ := p_699
    subst e_699
    rw [q_699]
    refine g_istore9 (q := 704) C dL_act_702 (by first | rfl | exact hNw_rf _) rfl ?_
    refine g_iconst (q := 705) (0) C dL_act_704 (by decide) rfl ?_
    refine g_istore10 (q := 707) C dL_act_705 (by first | rfl | exact hNw_rf _) rfl ?_
    refine g_widen (n' := 12 * 0) (z' := 90 * 0) (by decide) (by decide) ?_
    refine h_loopU (P := fun n => ∀ M3 : hM, ltP Γ M3 x S → smP Γ M3 y (goN S (nI d) n) → hG Γ k9 _ _ M3 (12 * n) (90 * n) 707 [some (.ref x), some (.ref y), some (.int xv), some (.int (nI t)), some (.int (nI h)), some (va_rf (bd (t * 8 + h))), none, none, some (.int (nI days)), some (.int (nI d)), some (.int (nI n)), none] []) (N := days) (fun n hn ih => ?_) 0 (Nat.zero_le _) _ hLt (by rw [goN_0]; exact hQ.P)
    intro M3 hLn hSn
    obtain ⟨_, _, _, _, _, _, _, _, _, _, _, _, _, hLqn⟩ := id hLn
    obtain ⟨ha5, oa5, la5, ob5, rx5, bd5, hQ5⟩ := id hSn
    refine g_iload (q := 709) C dL_act_707 rfl rfl ?_
    refine g_iload (q := 711) C dL_act_709 rfl rfl ?_
    refine g_icmp_ge (t := 726) (q := 714) C dL_act_711 (by decide) rfl (fun c_711 => ?_) (fun c_711 => ?_)
    · skip
      have hN := nI_ge_eq hn (by omega) c_711
      subst hN
      refine g_aload_n (q := 727) C dL_act_726 rfl (by first | exact hRef_r _ | exact hRef_o _ | exact hRef_n) rfl ?_
      refine g_iload (q := 729) C dL_act_727 rfl rfl ?_
      refine g_iload (q := 731) C dL_act_729 rfl rfl ?_
      refine g_callVX2I (q := 734) C hy_X4_pass (c_X4_pass Γ l (nI n) (nI d) hl hLn hI.inv) (thrN_no (by rw [sPass_ok hd1 (by omega) (by omega)])) qw_312 (by exact hLqn.1) rfl ⟨Nat.le_of_ble_eq_true rfl, Nat.le_of_ble_eq_true rfl⟩ (Nat.le_of_ble_eq_true rfl) rfl dL_act_731 ⟨by show 12 * n + 1 ≤ 200; omega, by show 90 * n + 6 ≤ 1500; omega⟩ rfl (fun x_731 M_731 p_731 => ?_)
      rw [sPass_ok hd1 (by omega) (by omega)] at p_731
      obtain ⟨-, v1, k2, k5⟩ := p_731
      have hS7 := smP.cls hSn (hI.goN (by omega) n) k5
      obtain ⟨ha7, oa7, la7, ob7, rx7, bd7, hQ7⟩ := id hS7
      refine g_aload_n (q := 735) C dL_act_734 rfl (by first | exact hRef_r _ | exact hRef_o _ | exact hRef_n) rfl ?_
      refine g_callV0Qm (q := 738) C hy_X5_sums (c_X5_sums Γ l hS7) qw_512 (by exact hQ7.1) rfl ⟨Nat.le_of_ble_eq_true rfl, Nat.le_of_ble_eq_true rfl⟩ (Nat.le_of_ble_eq_true rfl) rfl dL_act_735 ⟨by show 12 * n + 1 + 1 ≤ 200; omega, by show 90 * n + 6 + 3 ≤ 1500; omega⟩ rfl (fun x_735 M_735 p_735 => ?_)
      obtain ⟨sb, sf, rfl, e9, rfl, f0, f1, f2⟩ := p_735
      have kn : hKp (fun _ => true) M_731 (hU M_731 sb (aI Γ 3 sf)) := hKp.rf.new e9
      have hL8 := k2.kp kn rfl rfl rfl rfl rfl rfl ⟨rfl, rfl⟩ rfl
      have hS8 := hS7.kp kn simK_all hI.1.1 hI.1.2
      refine g_iconst (q := 739) (1) C dL_act_738 (by decide) rfl ?_
      refine g_iald (q := 740) C 1 rfl (by decide) (by decide) dL_act_739 (hU_s _ _ _) rfl ?_
      refine g_icmp_ne (t := 747) (q := 743) C dL_act_740 (by decide) rfl (fun c_740 => ?_) (fun c_740 => ?_)
      · skip
        exact absurd (v1.trans f1.symm) c_740
      · skip
        refine g_iconst (q := 744) (1) C dL_act_743 (by decide) rfl ?_
        refine g_goto (t := 748) C dL_act_744 (by decide) ?_
        exact g_zret C dL_act_748 (by first | rfl | exact hNarB _) (⟨rfl, _, hL8, hS8, (hI.goN (by omega) n).mono (by omega), h0⟩) (by show 12 * n + 1 + 1 ≤ 200; omega) (by show 90 * n + 6 + 3 ≤ 1500; omega)
    · skip
      have hlt := nI_nge_lt hn (by omega) c_711
      refine g_aload_n (q := 715) C dL_act_714 rfl (by first | exact hRef_r _ | exact hRef_o _ | exact hRef_n) rfl ?_
      refine g_iload (q := 717) C dL_act_715 rfl rfl ?_
      refine g_callV1Vm (q := 720) C hy_X5_go (c_X5_go Γ l hSn (hI.goN (by omega) n) (by omega)) qw_461 (by exact hQ5.1) rfl ⟨Nat.le_of_ble_eq_true rfl, Nat.le_of_ble_eq_true rfl⟩ (Nat.le_of_ble_eq_true rfl) rfl dL_act_717 ⟨by show 12 * n + 12 ≤ 200; omega, by show 90 * n + 90 ≤ 1500; omega⟩ rfl (fun M_717 p_717 => ?_)
      obtain ⟨u1, u3⟩ := p_717
      refine g_iinc10 (q := 723) (1) C dL_act_720 (by decide) (by first | rfl | exact hNw_rf _) rfl ?_
      refine g_goto (t := 707) C dL_act_723 (by decide) ?_
      rw [nI_1]
      refine g_widen (n' := 12 * (n + 1)) (z' := 90 * (n + 1)) (by show _ + 12 ≤ _; omega) (by show _ + 90 ≤ _; omega) ?_
      rw [goN_s] at u1
      exact ih hlt M_717 (hLn.sim u3) u1
