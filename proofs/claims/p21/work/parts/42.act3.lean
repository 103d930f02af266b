set_option maxRecDepth 100000 in
set_option maxHeartbeats 8000000 in
theorem act_524 {Γ : hGam} {l : Launch} {k9 : hCtx} {nm : String} {M : hM} (C : hC Γ l k9 RL nm cL_act 12 (some .boolean) rm_L_act (hA M (kS k9).heap.size)) (hl : l.stackTraces = false) (T : (kC k9).exceptionTable.toList = tableOf [(198, 211, 214, 35), (258, 267, 270, 35), (379, 392, 395, 35), (611, 629, 632, 35)]) {x y D t h : Nat} {S : hS} {xv : Int32} {ha oa la : Nat} {ob rx : Nat → Nat} {bd : Nat → Option Nat} (hLt : ltP Γ M x S) (hQ : smQ Γ M y S ha oa la ob rx bd) (hI : sI2 S D) (h0 : 0 < sN S) (ht : t < 5) (hh : h < 8) : hG Γ k9 (hA M (kS k9).heap.size) (hEnd Γ k9 M (hpI (fun a M1 => a = 1 ∧ ∃ S2, lawS Γ M1 x y S2 (D + 15))) rm_L_act.cells rm_L_act.slots) M 0 0 524 [some (.ref x), some (.ref y), some (.int xv), some (.int (nI t)), some (.int (nI h)), some (va_rf (bd (t * 8 + h))), none, none, none, none, none, none] [] := by
  have hn6 := hI.1.1
  have ho6 := hI.1.2
  obtain ⟨_, _, _, _, _, _, _, _, _, _, _, _, _, hLqt⟩ := id hLt
  have pL := hLqt.1
  obtain ⟨pX, pH, pO, pLs, pB⟩ := id hQ
  obtain ⟨lf, pLf, pRow⟩ := pLs.row
  obtain ⟨hr1, rf, hr2, hr3⟩ := pRow t ht
  have hix : t * 8 + h < 40 := by omega
  obtain ⟨hf0, hHa, hHr⟩ := id pH
  obtain ⟨gf, ga, gb, gc⟩ := id pO
  refine g_iconst (q := 525) (4) C dL_act_524 (by decide) rfl ?_
  refine g_newI (q := 527) C qw_476 (N := 4) rfl (by decide) (by decide) (by decide) dL_act_525 rfl (fun o e_o => ?_)
  refine g_dup (q := 528) C dL_act_527 rfl rfl ?_
  refine g_iconst (q := 529) (0) C dL_act_528 (by decide) rfl ?_
  refine g_iload_n (q := 530) C dL_act_529 rfl rfl ?_
  refine g_bipush (q := 532) (8) C dL_act_530 (by decide) rfl ?_
  refine g_ishr (q := 533) C dL_act_532 rfl ?_
  refine g_aload_n (q := 534) C dL_act_533 rfl (by first | exact hRef_r _ | exact hRef_o _ | exact hRef_n) rfl ?_
  refine g_get (q := 537) C hcl_X5 3 (by decide) qw_641 rfl dL_act_534 (by exact (hU_n (fun q => by rw [← q, pX] at e_o; cases e_o)).trans pX) rfl rfl ?_
  refine g_alenR (q := 538) C dL_act_537 ((hU_n (fun q => by rw [← q, hHa] at e_o; cases e_o)).trans hHa) rfl ?_
  refine g_callS2I (q := 541) C hy_L_below (c_L_below Γ l (N := (sN S)) h0 (by omega)) qw_500 ⟨Nat.le_of_ble_eq_true rfl, Nat.le_of_ble_eq_true rfl⟩ (Nat.le_of_ble_eq_true rfl) rfl dL_act_538 ⟨rfl, rfl⟩ ⟨by decide, by decide⟩ rfl (fun x_538 M_538 p_538 => ?_)
  obtain ⟨⟨j, hj, e_538⟩, q_538⟩ := p_538
  subst e_538
  rw [q_538]
  refine g_iast (q := 542) C 0 rfl (by decide) (by decide) dL_act_541 (hU_s _ _ _) rfl ?_
  rw [hU_2]
  refine g_dup (q := 543) C dL_act_542 rfl rfl ?_
  refine g_iconst (q := 544) (1) C dL_act_543 (by decide) rfl ?_
  refine g_iconst (q := 545) (1) C dL_act_544 (by decide) rfl ?_
  refine g_iload_n (q := 546) C dL_act_545 rfl rfl ?_
  refine g_iconst (q := 547) (5) C dL_act_546 (by decide) rfl ?_
  refine g_ishr (q := 548) C dL_act_547 rfl ?_
  refine g_bipush (q := 550) (9) C dL_act_548 (by decide) rfl ?_
  refine g_callS2I (q := 553) C hy_L_below (c_L_below Γ l (N := 9) (by decide) (by decide)) qw_500 ⟨Nat.le_of_ble_eq_true rfl, Nat.le_of_ble_eq_true rfl⟩ (Nat.le_of_ble_eq_true rfl) rfl dL_act_550 ⟨rfl, rfl⟩ ⟨by decide, by decide⟩ rfl (fun x_550 M_550 p_550 => ?_)
  obtain ⟨⟨m8, hm8, e_550⟩, q_550⟩ := p_550
  subst e_550
  rw [q_550]
  obtain ⟨m9, hm1, hm, em9⟩ : ∃ m9, 1 ≤ m9 ∧ m9 ≤ 9 ∧ (1 : Int32) + nI m8 = nI m9 := ⟨1 + m8, by omega, by omega, nI_add 1 m8⟩
  refine g_iadd (q := 554) C dL_act_553 rfl ?_
  rw [em9]
  refine g_iast (q := 555) C 1 rfl (by decide) (by decide) dL_act_554 (hU_s _ _ _) rfl ?_
  rw [hU_2]
  refine g_dup (q := 556) C dL_act_555 rfl rfl ?_
  refine g_iconst (q := 557) (2) C dL_act_556 (by decide) rfl ?_
  refine g_iload_n (q := 558) C dL_act_557 rfl rfl ?_
  refine g_iconst (q := 559) (3) C dL_act_558 (by decide) rfl ?_
  refine g_ishr (q := 560) C dL_act_559 rfl ?_
  refine g_bipush (q := 562) (61) C dL_act_560 (by decide) rfl ?_
  refine g_callS2I (q := 565) C hy_L_below (c_L_below Γ l (N := 61) (by decide) (by decide)) qw_500 ⟨Nat.le_of_ble_eq_true rfl, Nat.le_of_ble_eq_true rfl⟩ (Nat.le_of_ble_eq_true rfl) rfl dL_act_562 ⟨rfl, rfl⟩ ⟨by decide, by decide⟩ rfl (fun x_562 M_562 p_562 => ?_)
  obtain ⟨⟨w, hw, e_562⟩, q_562⟩ := p_562
  subst e_562
  rw [q_562]
  have hw : w ≤ 60 := by omega
  refine g_iast (q := 566) C 2 rfl (by decide) (by decide) dL_act_565 (hU_s _ _ _) rfl ?_
  rw [hU_2]
  refine g_dup (q := 567) C dL_act_566 rfl rfl ?_
  refine g_iconst (q := 568) (3) C dL_act_567 (by decide) rfl ?_
  refine g_iconst (q := 569) (0) C dL_act_568 (by decide) rfl ?_
  refine g_iast (q := 570) C 3 rfl (by decide) (by decide) dL_act_569 (hU_s _ _ _) rfl ?_
  rw [hU_2]
  obtain ⟨f, hf⟩ : ∃ f9 : Nat → Int32, f9 = (upd (upd (upd (upd (fun _ => 0) 0 (nI j)) 1 (nI m9)) 2 (nI w)) 3 0) := ⟨_, rfl⟩
  rw [← hf]
  have f0 : f 0 = nI j := by rw [hf, pk_un (by decide), pk_un (by decide), pk_un (by decide), pk_us]
  have f1 : f 1 = nI m9 := by rw [hf, pk_un (by decide), pk_un (by decide), pk_us]
  have f2 : f 2 = nI w := by rw [hf, pk_un (by decide), pk_us]
  have f3 : f 3 = 0 := by rw [hf, pk_us]
  have kn : hKp (fun _ => true) M (hU M o (aI Γ 4 f)) := hKp.rf.new e_o
  have hL1 := hLt.kp kn rfl rfl rfl rfl rfl rfl ⟨rfl, rfl⟩ rfl
  have hQ1 := hQ.kp kn simK_all hn6 ho6
  refine g_astore8 (q := 572) C dL_act_570 (by first | exact hRef_r _ | exact hRef_o _ | exact hRef_n) (by first | rfl | exact hNw_rf _) rfl ?_
  refine g_aload_n (q := 573) C dL_act_572 rfl (by first | exact hRef_r _ | exact hRef_o _ | exact hRef_n) rfl ?_
  refine g_get (q := 576) C hcl_X5 4 (by decide) qw_643 rfl dL_act_573 (by exact kn _ _ _ pX rfl) rfl rfl ?_
  refine g_alenR (q := 577) C dL_act_576 (kn _ _ _ ga rfl) rfl ?_
  refine g_bipush (q := 579) (6) C dL_act_577 (by decide) rfl ?_
  refine g_icmp_ge (t := 590) (q := 582) C dL_act_579 (by decide) rfl (fun c_579 => ?_) (fun c_579 => ?_)
  · skip
    have so6 : ¬ sO S < 6 := fun z => Int32.not_lt.mpr c_579 (nI_lt z (by decide))
    refine g_iconst (q := 591) (-1) C dL_act_590 (by decide) rfl ?_
    refine g_istore7 (q := 593) C dL_act_591 (by first | rfl | exact hNw_rf _) rfl ?_
    refine g_iload (q := 595) C dL_act_593 rfl rfl ?_
    refine g_if_lt (t := 611) (q := 598) C dL_act_595 (by decide) rfl (fun c_595 => ?_) (fun c_595 => absurd (by decide) c_595)
    have hL2 := hL1
    have hS2 := hQ1.P
    have hoF : hU M o (aI Γ 4 f) o = some (true, aI Γ 4 f) := hU_s _ _ _
    obtain ⟨_, _, _, _, _, _, _, _, _, _, _, _, _, hLq2⟩ := id hL2
    refine g_aload_n (q := 612) C dL_act_611 rfl (by first | exact hRef_r _ | exact hRef_o _ | exact hRef_n) rfl ?_
    refine g_aload (q := 614) C dL_act_612 rfl (by first | exact hRef_r _ | exact hRef_o _ | exact hRef_n) rfl ?_
    refine g_iconst (q := 615) (0) C dL_act_614 (by decide) rfl ?_
    refine g_iald (q := 616) C 0 rfl (by decide) (by decide) dL_act_615 (hoF) rfl ?_
    rw [f0]
    refine g_aload (q := 618) C dL_act_616 rfl (by first | exact hRef_r _ | exact hRef_o _ | exact hRef_n) rfl ?_
    refine g_iconst (q := 619) (1) C dL_act_618 (by decide) rfl ?_
    refine g_iald (q := 620) C 1 rfl (by decide) (by decide) dL_act_619 (hoF) rfl ?_
    rw [f1]
    refine g_aload (q := 622) C dL_act_620 rfl (by first | exact hRef_r _ | exact hRef_o _ | exact hRef_n) rfl ?_
    refine g_iconst (q := 623) (2) C dL_act_622 (by decide) rfl ?_
    refine g_iald (q := 624) C 2 rfl (by decide) (by decide) dL_act_623 (hoF) rfl ?_
    rw [f2]
    refine gx_callVX (As := [.int (nI j), .int (nI m9), .int (nI w)]) C hy_X4_order (c_X4_order Γ l (nI j) (nI m9) (nI w) hl hL2 hI.inv) qw_540 (by exact hLq2.1) rfl ⟨Nat.le_of_ble_eq_true rfl, Nat.le_of_ble_eq_true rfl⟩ (Nat.le_of_ble_eq_true rfl) rfl ⟨by decide, by decide⟩ dL_act_624 rfl rfl (fun E hE => ?_) (fun r M8 hp => ?_)
    · obtain ⟨i9, hi1, hi2⟩ := hE
      have h9 := hi1.symm.trans (sOrd_no hn6 hj hm1 hm hw so6)
      obtain rfl : i9 = 2 := by omega
      cases hi2
      refine g_catch (name := "java/lang/IllegalStateException") (hh := [(198, 211, 214, 35), (258, 267, 270, 35), (379, 392, 395, 35), (611, 629, 632, 35)]) C T [(198, 211, 214, 35), (258, 267, 270, 35), (379, 392, 395, 35)] (611, 629, 632, 35) [] rfl (fun z hz => by simp only [List.mem_cons, List.not_mem_nil, or_false] at hz; rcases hz with rfl | rfl | rfl <;> rfl) (by decide) (by decide) qw_511 qw_220 (fun q => ?_)
      refine g_astore9 (q := 634) C dL_act_632 (by first | exact hRef_r _ | exact hRef_o _ | exact hRef_n) (by first | rfl | exact hNw_rf _) rfl ?_
      refine g_iconst (q := 635) (-1) C dL_act_634 (by decide) rfl ?_
      refine g_istore6 (q := 637) C dL_act_635 (by first | rfl | exact hNw_rf _) rfl ?_
      refine g_iload (q := 639) C dL_act_637 rfl rfl ?_
      refine g_iload (q := 641) C dL_act_639 rfl rfl ?_
      refine g_icmp_ne (t := 648) (q := 644) C dL_act_641 (by decide) rfl (fun c_641 => ?_) (fun c_641 => ?_)
      · skip
        first | exact absurd rfl c_641 | exact absurd p2 c_641
      · skip
        refine g_iconst (q := 645) (1) C dL_act_644 (by decide) rfl ?_
        refine g_goto (t := 649) C dL_act_645 (by decide) ?_
        exact g_zret C dL_act_649 (by first | rfl | exact hNarB _) (⟨rfl, _, hL2, hS2, hI.mono (by omega), h0⟩) (by decide) (by decide)
    · obtain ⟨a9, rfl, p1, p2, p3, p4⟩ := hp
      exact absurd (p1.symm.trans (sOrd_no hn6 hj hm1 hm hw so6)) (by decide)
  · skip
    have so6 : sO S < 6 := (nI_ltI (a := sO S) (b := 6) (by omega) (by decide)).mp (Int32.not_le.mp c_579)
    refine g_aload_n (q := 583) C dL_act_582 rfl (by first | exact hRef_r _ | exact hRef_o _ | exact hRef_n) rfl ?_
    refine g_get (q := 586) C hcl_X5 4 (by decide) qw_643 rfl dL_act_583 (by exact kn _ _ _ pX rfl) rfl rfl ?_
    refine g_alenR (q := 587) C dL_act_586 (kn _ _ _ ga rfl) rfl ?_
    refine g_goto (t := 591) C dL_act_587 (by decide) ?_
    refine g_istore7 (q := 593) C dL_act_591 (by first | rfl | exact hNw_rf _) rfl ?_
    refine g_iload (q := 595) C dL_act_593 rfl rfl ?_
    refine g_if_lt (t := 611) (q := 598) C dL_act_595 (by decide) rfl (fun c_595 => absurd c_595 (nI_pos (by omega))) (fun c_595 => ?_)
    refine g_aload_n (q := 599) C dL_act_598 rfl (by first | exact hRef_r _ | exact hRef_o _ | exact hRef_n) rfl ?_
    refine g_aload_n (q := 600) C dL_act_599 rfl (by first | exact hRef_r _ | exact hRef_o _ | exact hRef_n) rfl ?_
    refine g_get (q := 603) C hcl_X5 4 (by decide) qw_643 rfl dL_act_600 (by exact kn _ _ _ pX rfl) rfl rfl ?_
    refine g_aload (q := 605) C dL_act_603 rfl (by first | exact hRef_r _ | exact hRef_o _ | exact hRef_n) rfl ?_
    refine g_callS2Qm (q := 608) C hy_X5_more (c_X5_more Γ l (w := true) (w2 := true) (kn _ _ _ ga rfl) (hU_s M o (aI Γ 4 f)) (fun i hi => by obtain ⟨z1, f9, z2, z3⟩ := gb i hi; exact ⟨_, true, 4, f9, z1, kn _ _ _ z2 rfl⟩) ho6) qw_537 ⟨Nat.le_of_ble_eq_true rfl, Nat.le_of_ble_eq_true rfl⟩ (Nat.le_of_ble_eq_true rfl) rfl dL_act_605 ⟨by decide, by decide⟩ rfl (fun x_605 M_605 p_605 => ?_)
    obtain ⟨nb, g2, rfl, e_nb, rfl, hg2, hg3⟩ := p_605
    refine g_put (q := 611) C hcl_X5 4 (by decide) qw_643 rfl rfl rfl rfl dL_act_608 (by exact (kn.new e_nb : hKp (fun _ => true) M _) _ _ _ pX rfl) (Nat.le_of_ble_eq_true rfl) rfl ?_
    (try rw [hU_2])
    have kn2 : hKp (fun _ => true) M (hU (hU M o (aI Γ 4 f)) nb (aR Γ (sO S + 1) g2)) := kn.new e_nb
    have pX2 := kn2 _ _ _ pX rfl
    have kx : hKp noSx M (hU (hU (hU M o (aI Γ 4 f)) nb (aR Γ (sO S + 1) g2)) y (oSim (sDay S) (sWin S) (givn S) (some ha) (some nb) (some la))) := (kn2.wk (fun _ _ => rfl)).put pX2 rfl
    have oney : o ≠ y := fun q => by rw [q, pX] at e_o; cases e_o
    have hoN : o ≠ nb := fun q => by rw [← q, hU_s] at e_nb; cases e_nb
    have nbny : nb ≠ y := fun q => by rw [q, (kn _ _ _ pX rfl)] at e_nb; cases e_nb
    have hoF : (hU (hU (hU M o (aI Γ 4 f)) nb (aR Γ (sO S + 1) g2)) y (oSim (sDay S) (sWin S) (givn S) (some ha) (some nb) (some la))) o = some (true, aI Γ 4 f) := (hU_n oney).trans ((hU_n hoN).trans (hU_s _ _ _))
    have hbF : (hU (hU (hU M o (aI Γ 4 f)) nb (aR Γ (sO S + 1) g2)) y (oSim (sDay S) (sWin S) (givn S) (some ha) (some nb) (some la))) nb = some (true, aR Γ (sO S + 1) g2) := (hU_n nbny).trans (hU_s _ _ _)
    have kOld : ∀ a w e, (fun q => if q = y then none else M q : hM) a = some (w, e) → (hU (hU (hU M o (aI Γ 4 f)) nb (aR Γ (sO S + 1) g2)) y (oSim (sDay S) (sWin S) (givn S) (some ha) (some nb) (some la))) a = some (w, e) := fun a w e z => by
      by_cases q : a = y
      · simp [q] at z
      · simp only [if_neg q] at z
        exact (hU_n q).trans (kn2 _ _ _ z rfl)
    have hS2 : smP Γ (hU (hU (hU M o (aI Γ 4 f)) nb (aR Γ (sO S + 1) g2)) y (oSim (sDay S) (sWin S) (givn S) (some ha) (some nb) (some la))) y (ordS S j (nI m9) (nI w)) := by
      refine ⟨ha, nb, la, fUp ob (sO S) o, rx, bd, ?_, pH.kp kx rfl rfl, ?_, pLs.kp kx rfl rfl, pB.kp kx rfl⟩
      · rw [givn_ord]; exact hU_s _ _ _
      · exact smO.add (M := fun q => if q = y then none else M q) kOld (by show (if oa = y then none else M oa) = _; rw [if_neg (fun q => by rw [q, pX] at ga; cases ga)]; exact ga) (fun i hi => by
          obtain ⟨z1, f9, z2, z3⟩ := gb i hi
          exact ⟨z1, f9, by show (if ob i = y then none else M (ob i)) = _; rw [if_neg (fun q => by rw [q, pX] at z2; cases z2)]; exact z2, z3⟩) gc (by show (if o = y then none else M o) = _; rw [if_neg oney]; exact e_o) hoF hbF hg2 hg3 f0 f1 f2 f3
    have hL2 := hLt.kp kx rfl rfl rfl rfl rfl rfl ⟨rfl, rfl⟩ rfl
    obtain ⟨_, _, _, _, _, _, _, _, _, _, _, _, _, hLq2⟩ := id hL2
    refine g_aload_n (q := 612) C dL_act_611 rfl (by first | exact hRef_r _ | exact hRef_o _ | exact hRef_n) rfl ?_
    refine g_aload (q := 614) C dL_act_612 rfl (by first | exact hRef_r _ | exact hRef_o _ | exact hRef_n) rfl ?_
    refine g_iconst (q := 615) (0) C dL_act_614 (by decide) rfl ?_
    refine g_iald (q := 616) C 0 rfl (by decide) (by decide) dL_act_615 (hoF) rfl ?_
    rw [f0]
    refine g_aload (q := 618) C dL_act_616 rfl (by first | exact hRef_r _ | exact hRef_o _ | exact hRef_n) rfl ?_
    refine g_iconst (q := 619) (1) C dL_act_618 (by decide) rfl ?_
    refine g_iald (q := 620) C 1 rfl (by decide) (by decide) dL_act_619 (hoF) rfl ?_
    rw [f1]
    refine g_aload (q := 622) C dL_act_620 rfl (by first | exact hRef_r _ | exact hRef_o _ | exact hRef_n) rfl ?_
    refine g_iconst (q := 623) (2) C dL_act_622 (by decide) rfl ?_
    refine g_iald (q := 624) C 2 rfl (by decide) (by decide) dL_act_623 (hoF) rfl ?_
    rw [f2]
    refine gx_callVX (As := [.int (nI j), .int (nI m9), .int (nI w)]) C hy_X4_order (c_X4_order Γ l (nI j) (nI m9) (nI w) hl hL2 hI.inv) qw_540 (by exact hLq2.1) rfl ⟨Nat.le_of_ble_eq_true rfl, Nat.le_of_ble_eq_true rfl⟩ (Nat.le_of_ble_eq_true rfl) rfl ⟨by decide, by decide⟩ dL_act_624 rfl rfl (fun E hE => ?_) (fun r M8 hp => ?_)
    · obtain ⟨i9, hi1, hi2⟩ := hE
      exact absurd (hi1.symm.trans (congrArg (fun z => z.1) (sOrd_yes hn6 hj hm1 hm hw so6))) (Nat.succ_ne_zero _)
    · obtain ⟨a9, rfl, p1, p2, p3, p4⟩ := hp
      rw [sOrd_yes hn6 hj hm1 hm hw so6] at p2 p3
      have hS8 := smP.cls hS2 (hI.ord hj hm1 hm hw so6) p4
      refine g_istore6 (q := 629) C dL_act_627 (by first | rfl | exact hNw_rf _) rfl ?_
      refine g_goto (t := 637) C dL_act_629 (by decide) ?_
      refine g_iload (q := 639) C dL_act_637 rfl rfl ?_
      refine g_iload (q := 641) C dL_act_639 rfl rfl ?_
      refine g_icmp_ne (t := 648) (q := 644) C dL_act_641 (by decide) rfl (fun c_641 => ?_) (fun c_641 => ?_)
      · skip
        first | exact absurd rfl c_641 | exact absurd p2 c_641
      · skip
        refine g_iconst (q := 645) (1) C dL_act_644 (by decide) rfl ?_
        refine g_goto (t := 649) C dL_act_645 (by decide) ?_
        exact g_zret C dL_act_649 (by first | rfl | exact hNarB _) (⟨rfl, _, p3, hS8, (hI.ord hj hm1 hm hw so6).mono (by omega), h0⟩) (by decide) (by decide)
set_option maxRecDepth 100000 in
set_option maxHeartbeats 8000000 in
theorem act_92 {Γ : hGam} {l : Launch} {k9 : hCtx} {nm : String} {M : hM} (C : hC Γ l k9 RL nm cL_act 12 (some .boolean) rm_L_act (hA M (kS k9).heap.size)) (hl : l.stackTraces = false) (T : (kC k9).exceptionTable.toList = tableOf [(198, 211, 214, 35), (258, 267, 270, 35), (379, 392, 395, 35), (611, 629, 632, 35)]) {x y D t h : Nat} {S : hS} {xv : Int32} {ha oa la : Nat} {ob rx : Nat → Nat} {bd : Nat → Option Nat} (hLt : ltP Γ M x S) (hQ : smQ Γ M y S ha oa la ob rx bd) (hI : sI2 S D) (h0 : 0 < sN S) (ht : t < 5) (hh : h < 8) : hG Γ k9 (hA M (kS k9).heap.size) (hEnd Γ k9 M (hpI (fun a M1 => a = 1 ∧ ∃ S2, lawS Γ M1 x y S2 (D + 15))) rm_L_act.cells rm_L_act.slots) M 0 0 92 [some (.ref x), some (.ref y), some (.int xv), some (.int (nI t)), some (.int (nI h)), some (va_rf (bd (t * 8 + h))), none, none, none, none, none, none] [] := by
  have hn6 := hI.1.1
  have ho6 := hI.1.2
  obtain ⟨_, _, _, _, _, _, _, _, _, _, _, _, _, hLqt⟩ := id hLt
  have pL := hLqt.1
  obtain ⟨pX, pH, pO, pLs, pB⟩ := id hQ
  obtain ⟨lf, pLf, pRow⟩ := pLs.row
  obtain ⟨hr1, rf, hr2, hr3⟩ := pRow t ht
  have hix : t * 8 + h < 40 := by omega
  obtain ⟨hf0, hHa, hHr⟩ := id pH
  refine g_iload_n (q := 93) C dL_act_92 rfl rfl ?_
  refine g_bipush (q := 95) (8) C dL_act_93 (by decide) rfl ?_
  refine g_ishr (q := 96) C dL_act_95 rfl ?_
  refine g_aload_n (q := 97) C dL_act_96 rfl (by first | exact hRef_r _ | exact hRef_o _ | exact hRef_n) rfl ?_
  refine g_get (q := 100) C hcl_X5 3 (by decide) qw_641 rfl dL_act_97 (by exact pX) rfl rfl ?_
  refine g_alenR (q := 101) C dL_act_100 (hHa) rfl ?_
  refine g_callS2I (q := 104) C hy_L_below (c_L_below Γ l (N := (sN S)) h0 (by omega)) qw_500 ⟨Nat.le_of_ble_eq_true rfl, Nat.le_of_ble_eq_true rfl⟩ (Nat.le_of_ble_eq_true rfl) rfl dL_act_101 ⟨rfl, rfl⟩ ⟨by decide, by decide⟩ rfl (fun x_101 M_101 p_101 => ?_)
  obtain ⟨⟨j, hj, e_101⟩, q_101⟩ := p_101
  subst e_101
  rw [q_101]
  refine g_istore8 (q := 106) C dL_act_104 (by first | rfl | exact hNw_rf _) rfl ?_
  refine g_iload_n (q := 107) C dL_act_106 rfl rfl ?_
  refine g_bipush (q := 109) (7) C dL_act_107 (by decide) rfl ?_
  refine g_ishr (q := 110) C dL_act_109 rfl ?_
  refine g_iconst (q := 111) (3) C dL_act_110 (by decide) rfl ?_
  refine g_callS2I (q := 114) C hy_L_below (c_L_below Γ l (N := 3) (by decide) (by decide)) qw_500 ⟨Nat.le_of_ble_eq_true rfl, Nat.le_of_ble_eq_true rfl⟩ (Nat.le_of_ble_eq_true rfl) rfl dL_act_111 ⟨rfl, rfl⟩ ⟨by decide, by decide⟩ rfl (fun x_111 M_111 p_111 => ?_)
  obtain ⟨⟨zz, hzz, e_111⟩, q_111⟩ := p_111
  subst e_111
  rw [q_111]
  refine g_if_ne (t := 128) (q := 117) C dL_act_114 (by decide) rfl (fun c_114 => ?_) (fun c_114 => ?_)
  · skip
    refine g_bipush (q := 130) (60) C dL_act_128 (by decide) rfl ?_
    refine g_iload_n (q := 131) C dL_act_130 rfl rfl ?_
    refine g_iconst (q := 132) (5) C dL_act_131 (by decide) rfl ?_
    refine g_ishr (q := 133) C dL_act_132 rfl ?_
    refine g_bipush (q := 135) (41) C dL_act_133 (by decide) rfl ?_
    refine g_callS2I (q := 138) C hy_L_below (c_L_below Γ l (N := 41) (by decide) (by decide)) qw_500 ⟨Nat.le_of_ble_eq_true rfl, Nat.le_of_ble_eq_true rfl⟩ (Nat.le_of_ble_eq_true rfl) rfl dL_act_135 ⟨rfl, rfl⟩ ⟨by decide, by decide⟩ rfl (fun x_135 M_135 p_135 => ?_)
    obtain ⟨⟨w9, hw9, e_135⟩, q_135⟩ := p_135
    subst e_135
    rw [q_135]
    refine g_iadd (q := 139) C dL_act_138 rfl ?_
    obtain ⟨w, hw, ew9⟩ : ∃ w, w ≤ 100 ∧ (60 : Int32) + nI w9 = nI w := ⟨60 + w9, by omega, nI_add 60 w9⟩
    rw [ew9]
    refine g_istore9 (q := 141) C dL_act_139 (by first | rfl | exact hNw_rf _) rfl ?_
    refine g_aload (q := 143) C dL_act_141 rfl (by first | exact hRef_r _ | exact hRef_o _ | exact hRef_n) rfl ?_
    refine g_ifnonnull (t := 181) (q := 146) C dL_act_143 (by decide) rfl (fun y_143 e_143 => ?_) (fun e_143 => ?_)
    · skip
      have tk9 : (sB S (t * 8 + h)).1.isSome = true := by rw [pB.tak hix, e_143]; rfl
      rw [e_143]
      refine g_aload (q := 183) C dL_act_181 rfl (by first | exact hRef_r _ | exact hRef_o _ | exact hRef_n) rfl ?_
      refine g_ifnonnullR (t := 195) C dL_act_183 (by decide) ?_
      have hL2 := hLt
      obtain ⟨_, _, _, _, _, _, _, _, _, _, _, _, _, hLq2⟩ := id hL2
      refine g_iconst (q := 196) (-1) C dL_act_195 (by decide) rfl ?_
      have hL3 := hL2
      obtain ⟨_, _, _, _, _, _, _, _, _, _, _, _, _, hLq3⟩ := id hL3
      refine g_istore7 (q := 198) C dL_act_196 (by first | rfl | exact hNw_rf _) rfl ?_
      refine g_aload_n (q := 199) C dL_act_198 rfl (by first | exact hRef_r _ | exact hRef_o _ | exact hRef_n) rfl ?_
      refine g_iload_n (q := 200) C dL_act_199 rfl rfl ?_
      refine g_iload (q := 202) C dL_act_200 rfl rfl ?_
      refine g_iload (q := 204) C dL_act_202 rfl rfl ?_
      refine g_iload (q := 206) C dL_act_204 rfl rfl ?_
      refine gx_callVX (As := [.int (nI t), .int (nI h), .int (nI j), .int (nI w)]) C hy_X4_hang (c_X4_hang Γ l (nI t) (nI h) (nI j) (nI w) hl hL3 hI.inv) qw_513 (by exact hLq3.1) rfl ⟨Nat.le_of_ble_eq_true rfl, Nat.le_of_ble_eq_true rfl⟩ (Nat.le_of_ble_eq_true rfl) rfl ⟨by decide, by decide⟩ dL_act_206 rfl rfl (fun E hE => ?_) (fun r M8 hp => ?_)
      · obtain ⟨i9, hi1, hi2⟩ := hE
        have h9 := hi1.symm.trans (sHang_yes ht hh hn6 hj hw tk9)
        obtain rfl : i9 = 2 := by omega
        cases hi2
        refine g_catch (name := "java/lang/IllegalStateException") (hh := [(198, 211, 214, 35), (258, 267, 270, 35), (379, 392, 395, 35), (611, 629, 632, 35)]) C T [] (198, 211, 214, 35) [(258, 267, 270, 35), (379, 392, 395, 35), (611, 629, 632, 35)] rfl (fun z hz => absurd hz List.not_mem_nil) (by decide) (by decide) qw_511 qw_220 (fun q => ?_)
        refine g_astore10 (q := 216) C dL_act_214 (by first | exact hRef_r _ | exact hRef_o _ | exact hRef_n) (by first | rfl | exact hNw_rf _) rfl ?_
        refine g_iconst (q := 217) (-1) C dL_act_216 (by decide) rfl ?_
        refine g_istore6 (q := 219) C dL_act_217 (by first | rfl | exact hNw_rf _) rfl ?_
        refine g_iload (q := 221) C dL_act_219 rfl rfl ?_
        refine g_iload (q := 223) C dL_act_221 rfl rfl ?_
        refine g_icmp_ne (t := 230) (q := 226) C dL_act_223 (by decide) rfl (fun c_223 => ?_) (fun c_223 => ?_)
        · skip
          first | exact absurd rfl c_223 | exact absurd (p2.trans s0.symm) c_223
        · skip
          refine g_iconst (q := 227) (1) C dL_act_226 (by decide) rfl ?_
          refine g_goto (t := 231) C dL_act_227 (by decide) ?_
          exact g_zret C dL_act_231 (by first | rfl | exact hNarB _) (⟨rfl, _, hLt, hQ.P, hI.mono (by omega), h0⟩) (by decide) (by decide)
      · obtain ⟨a9, rfl, p1, p2, p3, p4⟩ := hp
        exact absurd (p1.symm.trans (sHang_yes ht hh hn6 hj hw tk9)) (by decide)
    · skip
      have hb9 : (sB S (t * 8 + h)).1 = none := pB.2.1 _ hix e_143
      rw [e_143]
      refine g_aload_n (q := 147) C dL_act_146 rfl (by first | exact hRef_r _ | exact hRef_o _ | exact hRef_n) rfl ?_
      refine g_get (q := 150) C hcl_X5 5 (by decide) qw_645 rfl dL_act_147 (by exact pX) rfl rfl ?_
      refine g_iload_n (q := 151) C dL_act_150 rfl rfl ?_
      refine g_aaldRR (q := 152) C t rfl ht (by decide) dL_act_151 (pLf) hr1 rfl ?_
      refine g_iload (q := 154) C dL_act_152 rfl rfl ?_
      refine g_iconst (q := 155) (5) C dL_act_154 (by decide) rfl ?_
      refine g_newI (q := 157) C qw_476 (N := 5) rfl (by decide) (by decide) (by decide) dL_act_155 rfl (fun a e_a => ?_)
      refine g_dup (q := 158) C dL_act_157 rfl rfl ?_
      refine g_iconst (q := 159) (0) C dL_act_158 (by decide) rfl ?_
      refine g_iload (q := 161) C dL_act_159 rfl rfl ?_
      refine g_iast (q := 162) C 0 rfl (by decide) (by decide) dL_act_161 (hU_s _ _ _) rfl ?_
      rw [hU_2]
      refine g_dup (q := 163) C dL_act_162 rfl rfl ?_
      refine g_iconst (q := 164) (1) C dL_act_163 (by decide) rfl ?_
      refine g_iload (q := 166) C dL_act_164 rfl rfl ?_
      refine g_iast (q := 167) C 1 rfl (by decide) (by decide) dL_act_166 (hU_s _ _ _) rfl ?_
      rw [hU_2]
      refine g_dup (q := 168) C dL_act_167 rfl rfl ?_
      refine g_iconst (q := 169) (2) C dL_act_168 (by decide) rfl ?_
      refine g_iload (q := 171) C dL_act_169 rfl rfl ?_
      refine g_iast (q := 172) C 2 rfl (by decide) (by decide) dL_act_171 (hU_s _ _ _) rfl ?_
      rw [hU_2]
      refine g_dup (q := 173) C dL_act_172 rfl rfl ?_
      refine g_iconst (q := 174) (3) C dL_act_173 (by decide) rfl ?_
      refine g_iconst (q := 175) (0) C dL_act_174 (by decide) rfl ?_
      refine g_iast (q := 176) C 3 rfl (by decide) (by decide) dL_act_175 (hU_s _ _ _) rfl ?_
      rw [hU_2]
      refine g_dup (q := 177) C dL_act_176 rfl rfl ?_
      refine g_iconst (q := 178) (4) C dL_act_177 (by decide) rfl ?_
      refine g_iconst (q := 179) (0) C dL_act_178 (by decide) rfl ?_
      refine g_iast (q := 180) C 4 rfl (by decide) (by decide) dL_act_179 (hU_s _ _ _) rfl ?_
      rw [hU_2]
      obtain ⟨f, hf⟩ : ∃ f9 : Nat → Int32, f9 = (upd (upd (upd (upd (upd (fun _ => 0) 0 (nI j)) 1 (nI w)) 2 (nI w)) 3 0) 4 0) := ⟨_, rfl⟩
      rw [← hf]
      have hc9 : smC j (some j, nI w, nI w, 0, 0) f := by
        refine ⟨?_, ?_, ?_, ?_, ?_⟩
        · rw [hf, pk_un (by decide), pk_un (by decide), pk_un (by decide), pk_un (by decide), pk_us]
        · rw [hf, pk_un (by decide), pk_un (by decide), pk_un (by decide), pk_us]
        · rw [hf, pk_un (by decide), pk_un (by decide), pk_us]
        · rw [hf, pk_un (by decide), pk_us]
        · rw [hf, pk_us]
      have kn : hKp (fun _ => true) M (hU M a (aI Γ 5 f)) := hKp.rf.new e_a
      have hr8 : hKp noR8 M (hU (hU M a (aI Γ 5 f)) (rx t) (aR Γ 8 (va_up rf h (some a)))) := (kn.wk (fun _ _ => rfl)).put (kn _ _ _ hr2 rfl) rfl
      have pL2 := (pLs.kp kn rfl rfl).put ht hh hr3 (some a)
      have pB1 := pB.new (i := t * 8 + h) (f := f) e_a (b := (some j, nI w, nI w, 0, 0)) rfl hc9
      have pB2 := pB1.kp (hKp.rf.put (kn _ _ _ hr2 rfl) rfl : hKp noR8 (hU M a (aI Γ 5 f)) (hU (hU M a (aI Γ 5 f)) (rx t) (aR Γ 8 (va_up rf h (some a))))) rfl
      have hS2 : smP Γ (hU (hU M a (aI Γ 5 f)) (rx t) (aR Γ 8 (va_up rf h (some a)))) y (setB S (fUp (sB S) (t * 8 + h) (some j, nI w, nI w, 0, 0))) := ⟨ha, oa, la, ob, rx, _, hr8 _ _ _ pX rfl, pH.kp hr8 (noR8_s hn6) rfl, pO.kp hr8 (noR8_s ho6) rfl, pL2, pB2⟩
      have hL2 := hLt.kp hr8 rfl rfl rfl rfl rfl rfl ⟨rfl, rfl⟩ rfl
      obtain ⟨ha6, oa6, la6, ob6, rx6, bd6, hQ6⟩ := id hS2
      have hI2 := hI.up (k := t * 8 + h) (bOk.new (n := sN S) (D := D) hj hw)
      refine g_aastR (q := 181) C h rfl hh (by decide) dL_act_180 (kn _ _ _ hr2 rfl) (hU_s _ _ _) rfl ?_
      refine g_aload (q := 183) C dL_act_181 rfl (by first | exact hRef_r _ | exact hRef_o _ | exact hRef_n) rfl ?_
      refine g_ifnonnullN (q := 186) C dL_act_183 rfl ?_
      refine g_aload_n (q := 187) C dL_act_186 rfl (by first | exact hRef_r _ | exact hRef_o _ | exact hRef_n) rfl ?_
      refine g_callV0Qm (q := 190) C hy_X5_sums (c_X5_sums Γ l hS2) qw_512 (by exact hQ6.1) rfl ⟨Nat.le_of_ble_eq_true rfl, Nat.le_of_ble_eq_true rfl⟩ (Nat.le_of_ble_eq_true rfl) rfl dL_act_187 ⟨by decide, by decide⟩ rfl (fun x_187 M_187 p_187 => ?_)
      obtain ⟨sb, sf, rfl, e_sb, rfl, s0, s1, s2⟩ := p_187
      refine g_iconst (q := 191) (0) C dL_act_190 (by decide) rfl ?_
      refine g_iald (q := 192) C 0 rfl (by decide) (by decide) dL_act_191 (hU_s _ _ _) rfl ?_
      refine g_goto (t := 196) C dL_act_192 (by decide) ?_
      have kn3 : hKp (fun _ => true) (hU (hU M a (aI Γ 5 f)) (rx t) (aR Γ 8 (va_up rf h (some a)))) (hU (hU (hU M a (aI Γ 5 f)) (rx t) (aR Γ 8 (va_up rf h (some a)))) sb (aI Γ 3 sf)) := hKp.rf.new e_sb
      have hL3 := hL2.kp kn3 rfl rfl rfl rfl rfl rfl ⟨rfl, rfl⟩ rfl
      have hS3 := hS2.kp kn3 simK_all hn6 ho6
      obtain ⟨_, _, _, _, _, _, _, _, _, _, _, _, _, hLq3⟩ := id hL3
      refine g_istore7 (q := 198) C dL_act_196 (by first | rfl | exact hNw_rf _) rfl ?_
      refine g_aload_n (q := 199) C dL_act_198 rfl (by first | exact hRef_r _ | exact hRef_o _ | exact hRef_n) rfl ?_
      refine g_iload_n (q := 200) C dL_act_199 rfl rfl ?_
      refine g_iload (q := 202) C dL_act_200 rfl rfl ?_
      refine g_iload (q := 204) C dL_act_202 rfl rfl ?_
      refine g_iload (q := 206) C dL_act_204 rfl rfl ?_
      refine gx_callVX (As := [.int (nI t), .int (nI h), .int (nI j), .int (nI w)]) C hy_X4_hang (c_X4_hang Γ l (nI t) (nI h) (nI j) (nI w) hl hL3 hI.inv) qw_513 (by exact hLq3.1) rfl ⟨Nat.le_of_ble_eq_true rfl, Nat.le_of_ble_eq_true rfl⟩ (Nat.le_of_ble_eq_true rfl) rfl ⟨by decide, by decide⟩ dL_act_206 rfl rfl (fun E hE => ?_) (fun r M8 hp => ?_)
      · obtain ⟨i9, hi1, hi2⟩ := hE
        exact absurd (hi1.symm.trans (congrArg (fun z => z.1) (sHang_no ht hh hn6 hj hw hb9))) (Nat.succ_ne_zero _)
      · obtain ⟨a9, rfl, p1, p2, p3, p4⟩ := hp
        rw [sHang_no ht hh hn6 hj hw hb9] at p2 p3
        have hS8 := smP.cls hS3 hI2 p4
        refine g_istore6 (q := 211) C dL_act_209 (by first | rfl | exact hNw_rf _) rfl ?_
        refine g_goto (t := 219) C dL_act_211 (by decide) ?_
        refine g_iload (q := 221) C dL_act_219 rfl rfl ?_
        refine g_iload (q := 223) C dL_act_221 rfl rfl ?_
        refine g_icmp_ne (t := 230) (q := 226) C dL_act_223 (by decide) rfl (fun c_223 => ?_) (fun c_223 => ?_)
        · skip
          first | exact absurd rfl c_223 | exact absurd (p2.trans s0.symm) c_223
        · skip
          refine g_iconst (q := 227) (1) C dL_act_226 (by decide) rfl ?_
          refine g_goto (t := 231) C dL_act_227 (by decide) ?_
          exact g_zret C dL_act_231 (by first | rfl | exact hNarB _) (⟨rfl, _, p3, hS8, hI2.mono (by omega), h0⟩) (by decide) (by decide)
  · skip
    refine g_iload_n (q := 118) C dL_act_117 rfl rfl ?_
    refine g_iconst (q := 119) (5) C dL_act_118 (by decide) rfl ?_
    refine g_ishr (q := 120) C dL_act_119 rfl ?_
    refine g_bipush (q := 122) (101) C dL_act_120 (by decide) rfl ?_
    refine g_callS2I (q := 125) C hy_L_below (c_L_below Γ l (N := 101) (by decide) (by decide)) qw_500 ⟨Nat.le_of_ble_eq_true rfl, Nat.le_of_ble_eq_true rfl⟩ (Nat.le_of_ble_eq_true rfl) rfl dL_act_122 ⟨rfl, rfl⟩ ⟨by decide, by decide⟩ rfl (fun x_122 M_122 p_122 => ?_)
    obtain ⟨⟨w9, hw9, e_122⟩, q_122⟩ := p_122
    subst e_122
    rw [q_122]
    refine g_goto (t := 139) C dL_act_125 (by decide) ?_
    have hw : w9 ≤ 100 := by omega
    obtain ⟨w, rfl⟩ : ∃ w, w = w9 := ⟨_, rfl⟩
    refine g_istore9 (q := 141) C dL_act_139 (by first | rfl | exact hNw_rf _) rfl ?_
    refine g_aload (q := 143) C dL_act_141 rfl (by first | exact hRef_r _ | exact hRef_o _ | exact hRef_n) rfl ?_
    refine g_ifnonnull (t := 181) (q := 146) C dL_act_143 (by decide) rfl (fun y_143 e_143 => ?_) (fun e_143 => ?_)
    · skip
      have tk9 : (sB S (t * 8 + h)).1.isSome = true := by rw [pB.tak hix, e_143]; rfl
      rw [e_143]
      refine g_aload (q := 183) C dL_act_181 rfl (by first | exact hRef_r _ | exact hRef_o _ | exact hRef_n) rfl ?_
      refine g_ifnonnullR (t := 195) C dL_act_183 (by decide) ?_
      have hL2 := hLt
      obtain ⟨_, _, _, _, _, _, _, _, _, _, _, _, _, hLq2⟩ := id hL2
      refine g_iconst (q := 196) (-1) C dL_act_195 (by decide) rfl ?_
      have hL3 := hL2
      obtain ⟨_, _, _, _, _, _, _, _, _, _, _, _, _, hLq3⟩ := id hL3
      refine g_istore7 (q := 198) C dL_act_196 (by first | rfl | exact hNw_rf _) rfl ?_
      refine g_aload_n (q := 199) C dL_act_198 rfl (by first | exact hRef_r _ | exact hRef_o _ | exact hRef_n) rfl ?_
      refine g_iload_n (q := 200) C dL_act_199 rfl rfl ?_
      refine g_iload (q := 202) C dL_act_200 rfl rfl ?_
      refine g_iload (q := 204) C dL_act_202 rfl rfl ?_
      refine g_iload (q := 206) C dL_act_204 rfl rfl ?_
      refine gx_callVX (As := [.int (nI t), .int (nI h), .int (nI j), .int (nI w)]) C hy_X4_hang (c_X4_hang Γ l (nI t) (nI h) (nI j) (nI w) hl hL3 hI.inv) qw_513 (by exact hLq3.1) rfl ⟨Nat.le_of_ble_eq_true rfl, Nat.le_of_ble_eq_true rfl⟩ (Nat.le_of_ble_eq_true rfl) rfl ⟨by decide, by decide⟩ dL_act_206 rfl rfl (fun E hE => ?_) (fun r M8 hp => ?_)
      · obtain ⟨i9, hi1, hi2⟩ := hE
        have h9 := hi1.symm.trans (sHang_yes ht hh hn6 hj hw tk9)
        obtain rfl : i9 = 2 := by omega
        cases hi2
        refine g_catch (name := "java/lang/IllegalStateException") (hh := [(198, 211, 214, 35), (258, 267, 270, 35), (379, 392, 395, 35), (611, 629, 632, 35)]) C T [] (198, 211, 214, 35) [(258, 267, 270, 35), (379, 392, 395, 35), (611, 629, 632, 35)] rfl (fun z hz => absurd hz List.not_mem_nil) (by decide) (by decide) qw_511 qw_220 (fun q => ?_)
        refine g_astore10 (q := 216) C dL_act_214 (by first | exact hRef_r _ | exact hRef_o _ | exact hRef_n) (by first | rfl | exact hNw_rf _) rfl ?_
        refine g_iconst (q := 217) (-1) C dL_act_216 (by decide) rfl ?_
        refine g_istore6 (q := 219) C dL_act_217 (by first | rfl | exact hNw_rf _) rfl ?_
        refine g_iload (q := 221) C dL_act_219 rfl rfl ?_
        refine g_iload (q := 223) C dL_act_221 rfl rfl ?_
        refine g_icmp_ne (t := 230) (q := 226) C dL_act_223 (by decide) rfl (fun c_223 => ?_) (fun c_223 => ?_)
        · skip
          first | exact absurd rfl c_223 | exact absurd (p2.trans s0.symm) c_223
        · skip
          refine g_iconst (q := 227) (1) C dL_act_226 (by decide) rfl ?_
          refine g_goto (t := 231) C dL_act_227 (by decide) ?_
          exact g_zret C dL_act_231 (by first | rfl | exact hNarB _) (⟨rfl, _, hLt, hQ.P, hI.mono (by omega), h0⟩) (by decide) (by decide)
      · obtain ⟨a9, rfl, p1, p2, p3, p4⟩ := hp
        exact absurd (p1.symm.trans (sHang_yes ht hh hn6 hj hw tk9)) (by decide)
    · skip
      have hb9 : (sB S (t * 8 + h)).1 = none := pB.2.1 _ hix e_143
      rw [e_143]
      refine g_aload_n (q := 147) C dL_act_146 rfl (by first | exact hRef_r _ | exact hRef_o _ | exact hRef_n) rfl ?_
      refine g_get (q := 150) C hcl_X5 5 (by decide) qw_645 rfl dL_act_147 (by exact pX) rfl rfl ?_
      refine g_iload_n (q := 151) C dL_act_150 rfl rfl ?_
      refine g_aaldRR (q := 152) C t rfl ht (by decide) dL_act_151 (pLf) hr1 rfl ?_
      refine g_iload (q := 154) C dL_act_152 rfl rfl ?_
      refine g_iconst (q := 155) (5) C dL_act_154 (by decide) rfl ?_
      refine g_newI (q := 157) C qw_476 (N := 5) rfl (by decide) (by decide) (by decide) dL_act_155 rfl (fun a e_a => ?_)
      refine g_dup (q := 158) C dL_act_157 rfl rfl ?_
      refine g_iconst (q := 159) (0) C dL_act_158 (by decide) rfl ?_
      refine g_iload (q := 161) C dL_act_159 rfl rfl ?_
      refine g_iast (q := 162) C 0 rfl (by decide) (by decide) dL_act_161 (hU_s _ _ _) rfl ?_
      rw [hU_2]
      refine g_dup (q := 163) C dL_act_162 rfl rfl ?_
      refine g_iconst (q := 164) (1) C dL_act_163 (by decide) rfl ?_
      refine g_iload (q := 166) C dL_act_164 rfl rfl ?_
      refine g_iast (q := 167) C 1 rfl (by decide) (by decide) dL_act_166 (hU_s _ _ _) rfl ?_
      rw [hU_2]
      refine g_dup (q := 168) C dL_act_167 rfl rfl ?_
      refine g_iconst (q := 169) (2) C dL_act_168 (by decide) rfl ?_
      refine g_iload (q := 171) C dL_act_169 rfl rfl ?_
      refine g_iast (q := 172) C 2 rfl (by decide) (by decide) dL_act_171 (hU_s _ _ _) rfl ?_
      rw [hU_2]
      refine g_dup (q := 173) C dL_act_172 rfl rfl ?_
      refine g_iconst (q := 174) (3) C dL_act_173 (by decide) rfl ?_
      refine g_iconst (q := 175) (0) C dL_act_174 (by decide) rfl ?_
      refine g_iast (q := 176) C 3 rfl (by decide) (by decide) dL_act_175 (hU_s _ _ _) rfl ?_
      rw [hU_2]
      refine g_dup (q := 177) C dL_act_176 rfl rfl ?_
      refine g_iconst (q := 178) (4) C dL_act_177 (by decide) rfl ?_
      refine g_iconst (q := 179) (0) C dL_act_178 (by decide) rfl ?_
      refine g_iast (q := 180) C 4 rfl (by decide) (by decide) dL_act_179 (hU_s _ _ _) rfl ?_
      rw [hU_2]
      obtain ⟨f, hf⟩ : ∃ f9 : Nat → Int32, f9 = (upd (upd (upd (upd (upd (fun _ => 0) 0 (nI j)) 1 (nI w)) 2 (nI w)) 3 0) 4 0) := ⟨_, rfl⟩
      rw [← hf]
      have hc9 : smC j (some j, nI w, nI w, 0, 0) f := by
        refine ⟨?_, ?_, ?_, ?_, ?_⟩
        · rw [hf, pk_un (by decide), pk_un (by decide), pk_un (by decide), pk_un (by decide), pk_us]
        · rw [hf, pk_un (by decide), pk_un (by decide), pk_un (by decide), pk_us]
        · rw [hf, pk_un (by decide), pk_un (by decide), pk_us]
        · rw [hf, pk_un (by decide), pk_us]
        · rw [hf, pk_us]
      have kn : hKp (fun _ => true) M (hU M a (aI Γ 5 f)) := hKp.rf.new e_a
      have hr8 : hKp noR8 M (hU (hU M a (aI Γ 5 f)) (rx t) (aR Γ 8 (va_up rf h (some a)))) := (kn.wk (fun _ _ => rfl)).put (kn _ _ _ hr2 rfl) rfl
      have pL2 := (pLs.kp kn rfl rfl).put ht hh hr3 (some a)
      have pB1 := pB.new (i := t * 8 + h) (f := f) e_a (b := (some j, nI w, nI w, 0, 0)) rfl hc9
      have pB2 := pB1.kp (hKp.rf.put (kn _ _ _ hr2 rfl) rfl : hKp noR8 (hU M a (aI Γ 5 f)) (hU (hU M a (aI Γ 5 f)) (rx t) (aR Γ 8 (va_up rf h (some a))))) rfl
      have hS2 : smP Γ (hU (hU M a (aI Γ 5 f)) (rx t) (aR Γ 8 (va_up rf h (some a)))) y (setB S (fUp (sB S) (t * 8 + h) (some j, nI w, nI w, 0, 0))) := ⟨ha, oa, la, ob, rx, _, hr8 _ _ _ pX rfl, pH.kp hr8 (noR8_s hn6) rfl, pO.kp hr8 (noR8_s ho6) rfl, pL2, pB2⟩
      have hL2 := hLt.kp hr8 rfl rfl rfl rfl rfl rfl ⟨rfl, rfl⟩ rfl
      obtain ⟨ha6, oa6, la6, ob6, rx6, bd6, hQ6⟩ := id hS2
      have hI2 := hI.up (k := t * 8 + h) (bOk.new (n := sN S) (D := D) hj hw)
      refine g_aastR (q := 181) C h rfl hh (by decide) dL_act_180 (kn _ _ _ hr2 rfl) (hU_s _ _ _) rfl ?_
      refine g_aload (q := 183) C dL_act_181 rfl (by first | exact hRef_r _ | exact hRef_o _ | exact hRef_n) rfl ?_
      refine g_ifnonnullN (q := 186) C dL_act_183 rfl ?_
      refine g_aload_n (q := 187) C dL_act_186 rfl (by first | exact hRef_r _ | exact hRef_o _ | exact hRef_n) rfl ?_
      refine g_callV0Qm (q := 190) C hy_X5_sums (c_X5_sums Γ l hS2) qw_512 (by exact hQ6.1) rfl ⟨Nat.le_of_ble_eq_true rfl, Nat.le_of_ble_eq_true rfl⟩ (Nat.le_of_ble_eq_true rfl) rfl dL_act_187 ⟨by decide, by decide⟩ rfl (fun x_187 M_187 p_187 => ?_)
      obtain ⟨sb, sf, rfl, e_sb, rfl, s0, s1, s2⟩ := p_187
      refine g_iconst (q := 191) (0) C dL_act_190 (by decide) rfl ?_
      refine g_iald (q := 192) C 0 rfl (by decide) (by decide) dL_act_191 (hU_s _ _ _) rfl ?_
      refine g_goto (t := 196) C dL_act_192 (by decide) ?_
      have kn3 : hKp (fun _ => true) (hU (hU M a (aI Γ 5 f)) (rx t) (aR Γ 8 (va_up rf h (some a)))) (hU (hU (hU M a (aI Γ 5 f)) (rx t) (aR Γ 8 (va_up rf h (some a)))) sb (aI Γ 3 sf)) := hKp.rf.new e_sb
      have hL3 := hL2.kp kn3 rfl rfl rfl rfl rfl rfl ⟨rfl, rfl⟩ rfl
      have hS3 := hS2.kp kn3 simK_all hn6 ho6
      obtain ⟨_, _, _, _, _, _, _, _, _, _, _, _, _, hLq3⟩ := id hL3
      refine g_istore7 (q := 198) C dL_act_196 (by first | rfl | exact hNw_rf _) rfl ?_
      refine g_aload_n (q := 199) C dL_act_198 rfl (by first | exact hRef_r _ | exact hRef_o _ | exact hRef_n) rfl ?_
      refine g_iload_n (q := 200) C dL_act_199 rfl rfl ?_
      refine g_iload (q := 202) C dL_act_200 rfl rfl ?_
      refine g_iload (q := 204) C dL_act_202 rfl rfl ?_
      refine g_iload (q := 206) C dL_act_204 rfl rfl ?_
      refine gx_callVX (As := [.int (nI t), .int (nI h), .int (nI j), .int (nI w)]) C hy_X4_hang (c_X4_hang Γ l (nI t) (nI h) (nI j) (nI w) hl hL3 hI.inv) qw_513 (by exact hLq3.1) rfl ⟨Nat.le_of_ble_eq_true rfl, Nat.le_of_ble_eq_true rfl⟩ (Nat.le_of_ble_eq_true rfl) rfl ⟨by decide, by decide⟩ dL_act_206 rfl rfl (fun E hE => ?_) (fun r M8 hp => ?_)
      · obtain ⟨i9, hi1, hi2⟩ := hE
        exact absurd (hi1.symm.trans (congrArg (fun z => z.1) (sHang_no ht hh hn6 hj hw hb9))) (Nat.succ_ne_zero _)
      · obtain ⟨a9, rfl, p1, p2, p3, p4⟩ := hp
        rw [sHang_no ht hh hn6 hj hw hb9] at p2 p3
        have hS8 := smP.cls hS3 hI2 p4
        refine g_istore6 (q := 211) C dL_act_209 (by first | rfl | exact hNw_rf _) rfl ?_
        refine g_goto (t := 219) C dL_act_211 (by decide) ?_
        refine g_iload (q := 221) C dL_act_219 rfl rfl ?_
        refine g_iload (q := 223) C dL_act_221 rfl rfl ?_
        refine g_icmp_ne (t := 230) (q := 226) C dL_act_223 (by decide) rfl (fun c_223 => ?_) (fun c_223 => ?_)
        · skip
          first | exact absurd rfl c_223 | exact absurd (p2.trans s0.symm) c_223
        · skip
          refine g_iconst (q := 227) (1) C dL_act_226 (by decide) rfl ?_
          refine g_goto (t := 231) C dL_act_227 (by decide) ?_
          exact g_zret C dL_act_231 (by first | rfl | exact hNarB _) (⟨rfl, _, p3, hS8, hI2.mono (by omega), h0⟩) (by decide) (by decide)
set_option maxRecDepth 100000 in
set_option maxHeartbeats 4000000 in
theorem c_L_act (Γ : hGam) (l : Launch) {M : hM} {x y D : Nat} {S : hS} {xv : Int32} (hl : l.stackTraces = false) (hLt : ltP Γ M x S) (hS : smP Γ M y S) (hI : sI2 S D) (h0 : 0 < sN S) : hMetW Γ l yL_act cL_act 12 (some .boolean) [(198, 211, 214, 35), (258, 267, 270, 35), (379, 392, 395, 35), (611, 629, 632, 35)] rm_L_act [.ref x, .ref y, .int xv] M (hpI (fun a M1 => a = 1 ∧ ∃ S2, lawS Γ M1 x y S2 (D + 15))) := by
  obtain ⟨ha, oa, la, ob, rx, bd, hQ⟩ := hS
  have hn6 := hI.1.1
  refine hMetW_of (by decide +kernel) (Nat.le_of_ble_eq_true rfl) (hCat_cons rfl (hCat_cons rfl (hCat_cons rfl hCat_nil))) (fun k9 C T => ?_)
  show hG _ _ _ _ _ _ _ _ [some (.ref x), some (.ref y), some (.int xv), none, none, none, none, none, none, none, none, none] _
  refine g_iload_n (q := 1) C dL_act_0 rfl rfl ?_
  refine g_iconst (q := 2) (4) C dL_act_1 (by decide) rfl ?_
  refine g_ishr (q := 3) C dL_act_2 rfl ?_
  refine g_iconst (q := 4) (5) C dL_act_3 (by decide) rfl ?_
  refine g_callS2I (q := 7) C hy_L_below (c_L_below Γ l (N := 5) (by decide) (by decide)) qw_500 ⟨Nat.le_of_ble_eq_true rfl, Nat.le_of_ble_eq_true rfl⟩ (Nat.le_of_ble_eq_true rfl) rfl dL_act_4 ⟨rfl, rfl⟩ ⟨by decide, by decide⟩ rfl (fun x_4 M_4 p_4 => ?_)
  obtain ⟨⟨t, ht, e_4⟩, q_4⟩ := p_4
  subst e_4
  rw [q_4]
  obtain ⟨lf, pLf, pRow⟩ := hQ.2.2.2.1.row
  obtain ⟨hr1, rf, hr2, hr3⟩ := pRow t ht
  refine g_istore3 (q := 8) C dL_act_7 (by first | rfl | exact hNw_rf _) rfl ?_
  refine g_iload_n (q := 9) C dL_act_8 rfl rfl ?_
  refine g_bipush (q := 11) (6) C dL_act_9 (by decide) rfl ?_
  refine g_ishr (q := 12) C dL_act_11 rfl ?_
  refine g_bipush (q := 14) (8) C dL_act_12 (by decide) rfl ?_
  refine g_callS2I (q := 17) C hy_L_below (c_L_below Γ l (N := 8) (by decide) (by decide)) qw_500 ⟨Nat.le_of_ble_eq_true rfl, Nat.le_of_ble_eq_true rfl⟩ (Nat.le_of_ble_eq_true rfl) rfl dL_act_14 ⟨rfl, rfl⟩ ⟨by decide, by decide⟩ rfl (fun x_14 M_14 p_14 => ?_)
  obtain ⟨⟨h, hh, e_14⟩, q_14⟩ := p_14
  subst e_14
  rw [q_14]
  refine g_istore4 (q := 19) C dL_act_17 (by first | rfl | exact hNw_rf _) rfl ?_
  refine g_aload_n (q := 20) C dL_act_19 rfl (by first | exact hRef_r _ | exact hRef_o _ | exact hRef_n) rfl ?_
  refine g_get (q := 23) C hcl_X5 5 (by decide) qw_645 rfl dL_act_20 (by exact hQ.1) rfl rfl ?_
  refine g_iload_n (q := 24) C dL_act_23 rfl rfl ?_
  refine g_aaldRR (q := 25) C t rfl ht (by decide) dL_act_24 (pLf) hr1 rfl ?_
  refine g_iload (q := 27) C dL_act_25 rfl rfl ?_
  refine g_aaldR (q := 28) C h rfl hh (by omega) dL_act_27 (hr2) (congrArg va_rf (hr3 h hh)) rfl ?_
  refine g_astore5 (q := 30) C dL_act_28 (by first | exact hRef_r _ | exact hRef_o _ | exact hRef_n) (by first | rfl | exact hNw_rf _) rfl ?_
  refine g_iload_n (q := 31) C dL_act_30 rfl rfl ?_
  refine g_bipush (q := 33) (14) C dL_act_31 (by decide) rfl ?_
  refine g_callS2I (q := 36) C hy_L_below (c_L_below Γ l (N := 14) (by decide) (by decide)) qw_500 ⟨Nat.le_of_ble_eq_true rfl, Nat.le_of_ble_eq_true rfl⟩ (Nat.le_of_ble_eq_true rfl) rfl dL_act_33 ⟨rfl, rfl⟩ ⟨by decide, by decide⟩ rfl (fun x_33 M_33 p_33 => ?_)
  obtain ⟨⟨c, hc, e_33⟩, q_33⟩ := p_33
  subst e_33
  rw [q_33]
  by_cases s_0 : nI c = 0
  · skip
    refine g_tswI (t := 92) 0 C dL_act_36 (by rw [s_0]; rfl) (by decide) (by decide) rfl (by decide) ?_
    exact act_92 C hl T hLt hQ hI h0 ht hh
  by_cases s_1 : nI c = 1
  · skip
    refine g_tswI (t := 92) 1 C dL_act_36 (by rw [s_1]; rfl) (by decide) (by decide) rfl (by decide) ?_
    exact act_92 C hl T hLt hQ hI h0 ht hh
  by_cases s_2 : nI c = 2
  · skip
    refine g_tswI (t := 92) 2 C dL_act_36 (by rw [s_2]; rfl) (by decide) (by decide) rfl (by decide) ?_
    exact act_92 C hl T hLt hQ hI h0 ht hh
  by_cases s_3 : nI c = 3
  · skip
    refine g_tswI (t := 92) 3 C dL_act_36 (by rw [s_3]; rfl) (by decide) (by decide) rfl (by decide) ?_
    exact act_92 C hl T hLt hQ hI h0 ht hh
  by_cases s_4 : nI c = 4
  · skip
    refine g_tswI (t := 232) 4 C dL_act_36 (by rw [s_4]; rfl) (by decide) (by decide) rfl (by decide) ?_
    exact act_232 C hl T hLt hQ hI h0 ht hh
  by_cases s_5 : nI c = 5
  · skip
    refine g_tswI (t := 288) 5 C dL_act_36 (by rw [s_5]; rfl) (by decide) (by decide) rfl (by decide) ?_
    exact act_288 C hl T hLt hQ hI h0 ht hh
  by_cases s_6 : nI c = 6
  · skip
    refine g_tswI (t := 413) 6 C dL_act_36 (by rw [s_6]; rfl) (by decide) (by decide) rfl (by decide) ?_
    exact act_413 C hl T hLt hQ hI h0 ht hh
  by_cases s_7 : nI c = 7
  · skip
    refine g_tswI (t := 488) 7 C dL_act_36 (by rw [s_7]; rfl) (by decide) (by decide) rfl (by decide) ?_
    exact act_488 C hl T hLt hQ hI h0 ht hh
  by_cases s_8 : nI c = 8
  · skip
    refine g_tswI (t := 524) 8 C dL_act_36 (by rw [s_8]; rfl) (by decide) (by decide) rfl (by decide) ?_
    exact act_524 C hl T hLt hQ hI h0 ht hh
  by_cases s_9 : nI c = 9
  · skip
    refine g_tswI (t := 650) 9 C dL_act_36 (by rw [s_9]; rfl) (by decide) (by decide) rfl (by decide) ?_
    exact act_650 C hl T hLt hQ hI h0 ht hh
  refine g_tswO (t := 667) C dL_act_36 (by have n_0 := hNeI s_0 (m := 0) rfl; have n_1 := hNeI s_1 (m := 1) rfl; have n_2 := hNeI s_2 (m := 2) rfl; have n_3 := hNeI s_3 (m := 3) rfl; have n_4 := hNeI s_4 (m := 4) rfl; have n_5 := hNeI s_5 (m := 5) rfl; have n_6 := hNeI s_6 (m := 6) rfl; have n_7 := hNeI s_7 (m := 7) rfl; have n_8 := hNeI s_8 (m := 8) rfl; have n_9 := hNeI s_9 (m := 9) rfl; omega) (by decide) ?_
  exact act_667 C hl T hLt hQ hI h0 ht hh
