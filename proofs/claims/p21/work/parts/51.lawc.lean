set_option maxRecDepth 100000 in
set_option maxHeartbeats 8000000 in
theorem law_590 {Γ : hGam} {l : Launch} {k9 : hCtx} {nm : String} {A : Nat → Prop} {Q : State → Prop} (C : hC Γ l k9 RL nm cL_law 24 (some .boolean) room_1 A) (hl : l.stackTraces = false) {x y D : Nat} {S : hS} {M : hM} {n z tm b ta : Nat} {xv c8 c9 c10 c11 c12 c13 : Int32} {dg : Int64} (hn : n + 1000 ≤ 893913) (hz : z + 10000 ≤ 6419885) (hLS : lawS Γ M x y S D) (hT : tdP Γ M ta (sB S)) (hdg : dg = sDig S) (o14 o15 o16 o17 o18 o19 o20 o21 o22 o23 : Option Value) (kk : ∀ (M1 : hM) (p13 : Int32), lawS Γ M1 x y S D → tdP Γ M1 ta (sB S) → hG Γ k9 A Q M1 (n + 2) (z + 12) 627 [some (.ref b), some (.ref x), some (.ref y), some (.int (nI tm)), some (.int xv), some (.long dg), none, some (.ref ta), some (.int c8), some (.int c9), some (.int c10), some (.int c11), some (.int c12), some (.int p13), o14, o15, o16, o17, o18, o19, o20, o21, o22, o23] []) : hG Γ k9 A Q M (n) (z) 590 [some (.ref b), some (.ref x), some (.ref y), some (.int (nI tm)), some (.int xv), some (.long dg), none, some (.ref ta), some (.int c8), some (.int c9), some (.int c10), some (.int c11), some (.int c12), some (.int c13), o14, o15, o16, o17, o18, o19, o20, o21, o22, o23] [] := by
  obtain ⟨hL, hS, hI, h0⟩ := id hLS
  obtain ⟨_, _, _, _, _, _, _, _, _, _, _, _, _, hLq⟩ := id hL
  refine g_iload (q := 592) C dL_law_590 rfl rfl ?_
  refine g_iconst (q := 593) (4) C dL_law_592 (by decide) rfl ?_
  refine g_ishr (q := 594) C dL_law_593 rfl ?_
  refine g_iconst (q := 595) (5) C dL_law_594 (by decide) rfl ?_
  refine g_callS2I (q := 598) C hy_L_below (c_L_below Γ l (N := 5) (by decide) (by decide)) qw_500 ⟨Nat.le_of_ble_eq_true rfl, Nat.le_of_ble_eq_true rfl⟩ (Nat.le_of_ble_eq_true rfl) rfl dL_law_595 ⟨rfl, rfl⟩ ⟨by show _ ≤ 893913; omega, by show _ ≤ 6419885; omega⟩ rfl (fun x_595 M_595 p_595 => ?_)
  obtain ⟨⟨t, ht, e_595⟩, q_595⟩ := p_595
  subst e_595
  rw [q_595]
  refine g_istore13 (q := 600) C dL_law_598 (by first | rfl | exact hNw_rf _) rfl ?_
  refine g_aload_n (q := 601) C dL_law_600 rfl (by first | exact hRef_r _ | exact hRef_o _ | exact hRef_n) rfl ?_
  refine g_iload (q := 603) C dL_law_601 rfl rfl ?_
  refine g_callVX1I (q := 606) C hy_X4_turn (c_X4_turn Γ l (nI t) hl hL hI.inv) (thrN_no (by rw [sTurn_ok ht])) qw_252 (by exact hLq.1) rfl ⟨Nat.le_of_ble_eq_true rfl, Nat.le_of_ble_eq_true rfl⟩ (Nat.le_of_ble_eq_true rfl) rfl dL_law_603 ⟨by show n + 1 ≤ 893913; omega, by show z + 6 ≤ 6419885; omega⟩ rfl (fun x_603 M_603 p_603 => ?_)
  rw [sTurn_ok ht] at p_603
  obtain ⟨-, v603, hL2, k2⟩ := p_603
  refine g_widen (n' := n + 1) (z' := z + 6) (Nat.le_refl _) (Nat.le_refl _) ?_
  have hI2 := hI.turn t
  obtain ⟨_, _, _, _, _, _, _, _, _, _, _, _, _, hLq2⟩ := id hL2
  refine g_aload_n (q := 607) C dL_law_606 rfl (by first | exact hRef_r _ | exact hRef_o _ | exact hRef_n) rfl ?_
  refine g_iload (q := 609) C dL_law_607 rfl rfl ?_
  refine g_callVX1I (q := 612) C hy_X4_turn (c_X4_turn Γ l (nI t) hl hL2 hI2.inv) (thrN_no (by rw [sTurn_ok ht])) qw_252 (by exact hLq2.1) rfl ⟨Nat.le_of_ble_eq_true rfl, Nat.le_of_ble_eq_true rfl⟩ (Nat.le_of_ble_eq_true rfl) rfl dL_law_609 ⟨by show n + 1 + 1 ≤ 893913; omega, by show z + 6 + 6 ≤ 6419885; omega⟩ rfl (fun x_609 M_609 p_609 => ?_)
  rw [sTurn_ok ht] at p_609
  obtain ⟨-, v609, hL3, k3⟩ := p_609
  refine g_widen (n' := n + 2) (z' := z + 12) (Nat.le_refl _) (Nat.le_refl _) ?_
  have eS : setB (setB S (vTurn t (sB S))) (vTurn t (sB (setB S (vTurn t (sB S))))) = S := by
    show (S.1, S.2.1, vTurn t (vTurn t (sB S)), S.2.2.2.1, S.2.2.2.2) = S
    rw [vTurn2]
  rw [eS] at hL3
  obtain ⟨_, _, _, _, _, _, _, _, _, _, _, _, _, hLq3⟩ := id hL3
  refine g_icmp_ne (t := 625) (q := 615) C dL_law_612 (by decide) rfl (fun c_612 => ?_) (fun c_612 => ?_)
  · skip
    first | exact absurd (by rw [v603, v609]; exact (turn2 ht).symm) c_612
  · skip
    refine g_aload_n (q := 616) C dL_law_615 rfl (by first | exact hRef_r _ | exact hRef_o _ | exact hRef_n) rfl ?_
    refine g_callV0L (q := 619) C hy_X4_digest (c_X4_digest Γ l hL3 hI.inv) qw_451 (by exact hLq3.1) rfl ⟨Nat.le_of_ble_eq_true rfl, Nat.le_of_ble_eq_true rfl⟩ (Nat.le_of_ble_eq_true rfl) rfl dL_law_616 ⟨rfl, rfl⟩ ⟨by show _ ≤ 893913; omega, by show _ ≤ 6419885; omega⟩ rfl (fun x_616 M_616 p_616 => ?_)
    obtain ⟨v1, q9⟩ := p_616
    rw [q9]
    refine g_lload (q := 621) C dL_law_619 rfl rfl ?_
    refine g_lcmp (q := 622) C dL_law_621 rfl ?_
    refine g_if_eq (t := 627) (q := 625) C dL_law_622 (by decide) rfl (fun c_622 => ?_) (fun c_622 => ?_)
    · skip
      have kAll := k2.tr k3
      exact kk _ _ ⟨hL3, smP.cls hS hI kAll, hI, h0⟩ (hT.kp kAll rfl rfl)
    · skip
      first | exact absurd (by rw [v1, hdg]; exact lgc _) c_622
theorem sTo_0 {S : hS} {i : Nat} (hi : i < 40) : sTold S (nI (i / 8)) (nI (i % 8)) 0 = (0, tellI (sB S) i (nI 0)) := sTold_i (w := 0) hi (by decide)
theorem sTo_1 {S : hS} {i : Nat} (hi : i < 40) : sTold S (nI (i / 8)) (nI (i % 8)) 1 = (0, tellI (sB S) i (nI 1)) := sTold_i (w := 1) hi (by decide)
theorem sTo_5 {S : hS} {i : Nat} (hi : i < 40) : sTold S (nI (i / 8)) (nI (i % 8)) 5 = (0, tellI (sB S) i (nI 5)) := sTold_i (w := 5) hi (by decide)
theorem sTo_6 {S : hS} {i : Nat} (hi : i < 40) : sTold S (nI (i / 8)) (nI (i % 8)) 6 = (0, tellI (sB S) i (nI 6)) := sTold_i (w := 6) hi (by decide)
set_option maxRecDepth 100000 in
set_option maxHeartbeats 8000000 in
theorem law_627 {Γ : hGam} {l : Launch} {k9 : hCtx} {nm : String} {A : Nat → Prop} {Q : State → Prop} (C : hC Γ l k9 RL nm cL_law 24 (some .boolean) room_1 A) (hl : l.stackTraces = false) {x y D : Nat} {S : hS} {M : hM} {n z tm b ta : Nat} {xv c8 c9 c10 c11 c12 c13 : Int32} {dg : Int64} (hn : n + 1000 ≤ 893913) (hz : z + 10000 ≤ 6419885) (hLS : lawS Γ M x y S D) (hT : tdP Γ M ta (sB S)) (hdg : dg = sDig S) (o14 o15 o16 o17 o18 o19 o20 o21 o22 o23 : Option Value) (kk : ∀ (M1 : hM) (p14 p15 : Int32) (p16 : Option Value) (_ : Nat), lawS Γ M1 x y S D → tdP Γ M1 ta (sB S) → hG Γ k9 A Q M1 (n + 2) (z + 12) 832 [some (.ref b), some (.ref x), some (.ref y), some (.int (nI tm)), some (.int xv), some (.long dg), none, some (.ref ta), some (.int c8), some (.int c9), some (.int c10), some (.int c11), some (.int c12), some (.int c13), some (.int p14), some (.int p15), p16, o17, o18, o19, o20, o21, o22, o23] []) : hG Γ k9 A Q M (n) (z) 627 [some (.ref b), some (.ref x), some (.ref y), some (.int (nI tm)), some (.int xv), some (.long dg), none, some (.ref ta), some (.int c8), some (.int c9), some (.int c10), some (.int c11), some (.int c12), some (.int c13), o14, o15, o16, o17, o18, o19, o20, o21, o22, o23] [] := by
  obtain ⟨hL, hS, hI, h0⟩ := id hLS
  obtain ⟨_, _, _, _, _, _, _, _, _, _, _, _, _, hLq⟩ := id hL
  refine g_iload (q := 629) C dL_law_627 rfl rfl ?_
  refine g_iconst (q := 630) (5) C dL_law_629 (by decide) rfl ?_
  refine g_ishr (q := 631) C dL_law_630 rfl ?_
  refine g_bipush (q := 633) (40) C dL_law_631 (by decide) rfl ?_
  refine g_callS2I (q := 636) C hy_L_below (c_L_below Γ l (N := 40) (by decide) (by decide)) qw_500 ⟨Nat.le_of_ble_eq_true rfl, Nat.le_of_ble_eq_true rfl⟩ (Nat.le_of_ble_eq_true rfl) rfl dL_law_633 ⟨rfl, rfl⟩ ⟨by show _ ≤ 893913; omega, by show _ ≤ 6419885; omega⟩ rfl (fun x_633 M_633 p_633 => ?_)
  obtain ⟨⟨a, ha, e_633⟩, q_633⟩ := p_633
  subst e_633
  rw [q_633]
  refine g_istore14 (q := 638) C dL_law_636 (by first | rfl | exact hNw_rf _) rfl ?_
  refine g_iload (q := 640) C dL_law_638 rfl rfl ?_
  refine g_iconst (q := 641) (3) C dL_law_640 (by decide) rfl ?_
  refine g_ishr (q := 642) C dL_law_641 rfl ?_
  refine g_bipush (q := 644) (40) C dL_law_642 (by decide) rfl ?_
  refine g_callS2I (q := 647) C hy_L_below (c_L_below Γ l (N := 40) (by decide) (by decide)) qw_500 ⟨Nat.le_of_ble_eq_true rfl, Nat.le_of_ble_eq_true rfl⟩ (Nat.le_of_ble_eq_true rfl) rfl dL_law_644 ⟨rfl, rfl⟩ ⟨by show _ ≤ 893913; omega, by show _ ≤ 6419885; omega⟩ rfl (fun x_644 M_644 p_644 => ?_)
  obtain ⟨⟨c, hc, e_644⟩, q_644⟩ := p_644
  subst e_644
  rw [q_644]
  refine g_istore15 (q := 649) C dL_law_647 (by first | rfl | exact hNw_rf _) rfl ?_
  obtain ⟨g, ga, gr⟩ := id hT
  obtain ⟨ra, Ta, qa1, qa2, qa3⟩ := gr a ha
  obtain ⟨rc, Tc, qc1, qc2, qc3⟩ := gr c hc
  refine g_aload (q := 651) C dL_law_649 rfl (by first | exact hRef_r _ | exact hRef_o _ | exact hRef_n) rfl ?_
  refine g_iload (q := 653) C dL_law_651 rfl rfl ?_
  refine g_aaldR (q := 654) C a rfl ha (by decide) dL_law_653 (ga) (congrArg va_rf qa1) rfl ?_
  refine g_iconst (q := 655) (0) C dL_law_654 (by decide) rfl ?_
  refine g_iald (q := 656) C 0 rfl (by decide) (by decide) dL_law_655 (qa2) rfl ?_
  refine g_if_lt (t := 832) (q := 659) C dL_law_656 (by decide) rfl (fun c_656 => ?_) (fun c_656 => ?_)
  · skip
    refine g_widen (n' := n + 2) (z' := z + 12) (by omega) (by omega) ?_
    exact kk _ _ _ _ 0 hLS hT
  · skip
    have hsa := (row_n hI ha qa3).2 c_656
    refine g_aload (q := 661) C dL_law_659 rfl (by first | exact hRef_r _ | exact hRef_o _ | exact hRef_n) rfl ?_
    refine g_iload (q := 663) C dL_law_661 rfl rfl ?_
    refine g_aaldR (q := 664) C c rfl hc (by decide) dL_law_663 (ga) (congrArg va_rf qc1) rfl ?_
    refine g_iconst (q := 665) (0) C dL_law_664 (by decide) rfl ?_
    refine g_iald (q := 666) C 0 rfl (by decide) (by decide) dL_law_665 (qc2) rfl ?_
    refine g_if_ge (t := 832) (q := 669) C dL_law_666 (by decide) rfl (fun c_666 => ?_) (fun c_666 => ?_)
    · skip
      refine g_widen (n' := n + 2) (z' := z + 12) (by omega) (by omega) ?_
      exact kk _ _ _ _ 0 hLS hT
    · skip
      have hnc := (row_n hI hc qc3).1 (Int32.not_le.mp c_666)
      have hac : a ≠ c := fun q => by rw [q, hnc] at hsa; cases hsa
      obtain ⟨j, ej⟩ := Option.isSome_iff_exists.mp hsa
      obtain ⟨-, u1, u2, u3, u4, u5, u6, u7⟩ := tell_s ej
      have emc : mvB (sB S) a c c = sB S a := mvB_b hac
      have ema : mvB (sB S) a c a = emp := mvB_a
      have ejc : (mvB (sB S) a c c).1 = some j := by rw [emc]; exact ej
      obtain ⟨-, w1, w2, w3, w4, w5, w6, w7⟩ := tell_s ejc
      have hec : sB S c = emp := (hI.2.2.2.1 c hc).em hnc
      refine g_aload_n (q := 670) C dL_law_669 rfl (by first | exact hRef_r _ | exact hRef_o _ | exact hRef_n) rfl ?_
      refine g_iload (q := 672) C dL_law_670 rfl rfl ?_
      refine g_bipush (q := 674) (8) C dL_law_672 (by decide) rfl ?_
      refine g_idiv (q := 675) C dL_law_674 (by decide) rfl ?_; rw [dv8 ha]
      refine g_iload (q := 677) C dL_law_675 rfl rfl ?_
      refine g_bipush (q := 679) (8) C dL_law_677 (by decide) rfl ?_
      refine g_irem (q := 680) C dL_law_679 (by decide) rfl ?_; rw [rm8 ha]
      refine g_iload (q := 682) C dL_law_680 rfl rfl ?_
      refine g_bipush (q := 684) (8) C dL_law_682 (by decide) rfl ?_
      refine g_idiv (q := 685) C dL_law_684 (by decide) rfl ?_; rw [dv8 hc]
      refine g_iload (q := 687) C dL_law_685 rfl rfl ?_
      refine g_bipush (q := 689) (8) C dL_law_687 (by decide) rfl ?_
      refine g_irem (q := 690) C dL_law_689 (by decide) rfl ?_; rw [rm8 hc]
      refine g_callVX4I (q := 693) C hy_X4_move (c_X4_move Γ l (nI (a / 8)) (nI (a % 8)) (nI (c / 8)) (nI (c % 8)) hl hL hI.inv) (thrN_no (by rw [sMove_i ha hc hsa hnc])) qw_135 (by exact hLq.1) rfl ⟨Nat.le_of_ble_eq_true rfl, Nat.le_of_ble_eq_true rfl⟩ (Nat.le_of_ble_eq_true rfl) rfl dL_law_690 ⟨by show n + 1 ≤ 893913; omega, by show z + 6 ≤ 6419885; omega⟩ rfl (fun x_690 M_690 p_690 => ?_)
      rw [sMove_i ha hc hsa hnc] at p_690
      obtain ⟨-, v690, hL2, k2⟩ := p_690
      refine g_widen (n' := n + 1) (z' := z + 6) (Nat.le_refl _) (Nat.le_refl _) ?_
      have hI2 := hI.mv (b := c) ha
      have KG := k2
      obtain ⟨_, _, _, _, _, _, _, _, _, _, _, _, _, hLq2⟩ := id hL2
      refine g_istore16 (q := 695) C dL_law_693 (by first | rfl | exact hNw_rf _) rfl ?_
      refine g_iload (q := 697) C dL_law_695 rfl rfl ?_
      refine g_aload_n (q := 698) C dL_law_697 rfl (by first | exact hRef_r _ | exact hRef_o _ | exact hRef_n) rfl ?_
      refine g_iload (q := 700) C dL_law_698 rfl rfl ?_
      refine g_bipush (q := 702) (8) C dL_law_700 (by decide) rfl ?_
      refine g_idiv (q := 703) C dL_law_702 (by decide) rfl ?_; rw [dv8 hc]
      refine g_iload (q := 705) C dL_law_703 rfl rfl ?_
      refine g_bipush (q := 707) (8) C dL_law_705 (by decide) rfl ?_
      refine g_irem (q := 708) C dL_law_707 (by decide) rfl ?_; rw [rm8 hc]
      refine g_bipush (q := 710) (6) C dL_law_708 (by decide) rfl ?_
      refine g_callV3P (q := 713) C hy_X4_told (c_X4_told_n Γ l (nI (c / 8)) (nI (c % 8)) 6 hL2 hI2.inv (by rw [sTo_6 hc])) qw_371 (by exact hLq2.1) rfl ⟨Nat.le_of_ble_eq_true rfl, Nat.le_of_ble_eq_true rfl⟩ (Nat.le_of_ble_eq_true rfl) rfl dL_law_710 ⟨rfl, rfl⟩ ⟨by show _ ≤ 893913; omega, by show _ ≤ 6419885; omega⟩ rfl ?_
      refine g_icmp_ne (t := 830) (q := 716) C dL_law_713 (by decide) rfl (fun c_713 => ?_) (fun c_713 => ?_)
      · skip
        first | exact absurd (by rw [v690, sTo_6 hc]; exact w6.symm) c_713
      · skip
        refine g_aload_n (q := 717) C dL_law_716 rfl (by first | exact hRef_r _ | exact hRef_o _ | exact hRef_n) rfl ?_
        refine g_iload (q := 719) C dL_law_717 rfl rfl ?_
        refine g_bipush (q := 721) (8) C dL_law_719 (by decide) rfl ?_
        refine g_idiv (q := 722) C dL_law_721 (by decide) rfl ?_; rw [dv8 ha]
        refine g_iload (q := 724) C dL_law_722 rfl rfl ?_
        refine g_bipush (q := 726) (8) C dL_law_724 (by decide) rfl ?_
        refine g_irem (q := 727) C dL_law_726 (by decide) rfl ?_; rw [rm8 ha]
        refine g_iconst (q := 728) (0) C dL_law_727 (by decide) rfl ?_
        refine g_callV3P (q := 731) C hy_X4_told (c_X4_told_n Γ l (nI (a / 8)) (nI (a % 8)) 0 hL2 hI2.inv (by rw [sTo_0 ha])) qw_371 (by exact hLq2.1) rfl ⟨Nat.le_of_ble_eq_true rfl, Nat.le_of_ble_eq_true rfl⟩ (Nat.le_of_ble_eq_true rfl) rfl dL_law_728 ⟨rfl, rfl⟩ ⟨by show _ ≤ 893913; omega, by show _ ≤ 6419885; omega⟩ rfl ?_
        refine g_iconst (q := 732) (-1) C dL_law_731 (by decide) rfl ?_
        refine g_icmp_ne (t := 830) (q := 735) C dL_law_732 (by decide) rfl (fun c_732 => ?_) (fun c_732 => ?_)
        · skip
          first | exact absurd (by rw [sTo_0 ha]; exact tell_n (by rw [show sB (setB S (mvB (sB S) a c)) a = emp from ema]; rfl) _) c_732
        · skip
          refine g_aload_n (q := 736) C dL_law_735 rfl (by first | exact hRef_r _ | exact hRef_o _ | exact hRef_n) rfl ?_
          refine g_iload (q := 738) C dL_law_736 rfl rfl ?_
          refine g_bipush (q := 740) (8) C dL_law_738 (by decide) rfl ?_
          refine g_idiv (q := 741) C dL_law_740 (by decide) rfl ?_; rw [dv8 hc]
          refine g_iload (q := 743) C dL_law_741 rfl rfl ?_
          refine g_bipush (q := 745) (8) C dL_law_743 (by decide) rfl ?_
          refine g_irem (q := 746) C dL_law_745 (by decide) rfl ?_; rw [rm8 hc]
          refine g_iconst (q := 747) (1) C dL_law_746 (by decide) rfl ?_
          refine g_callV3P (q := 750) C hy_X4_told (c_X4_told_n Γ l (nI (c / 8)) (nI (c % 8)) 1 hL2 hI2.inv (by rw [sTo_1 hc])) qw_371 (by exact hLq2.1) rfl ⟨Nat.le_of_ble_eq_true rfl, Nat.le_of_ble_eq_true rfl⟩ (Nat.le_of_ble_eq_true rfl) rfl dL_law_747 ⟨rfl, rfl⟩ ⟨by show _ ≤ 893913; omega, by show _ ≤ 6419885; omega⟩ rfl ?_
          refine g_aload (q := 752) C dL_law_750 rfl (by first | exact hRef_r _ | exact hRef_o _ | exact hRef_n) rfl ?_
          refine g_iload (q := 754) C dL_law_752 rfl rfl ?_
          refine g_aaldR (q := 755) C a rfl ha (by decide) dL_law_754 (KG _ _ _ ga rfl) (congrArg va_rf qa1) rfl ?_
          refine g_iconst (q := 756) (1) C dL_law_755 (by decide) rfl ?_
          refine g_iald (q := 757) C 1 rfl (by decide) (by decide) dL_law_756 (KG _ _ _ qa2 rfl) rfl ?_
          refine g_icmp_ne (t := 830) (q := 760) C dL_law_757 (by decide) rfl (fun c_757 => ?_) (fun c_757 => ?_)
          · skip
            first | exact absurd (by rw [sTo_1 hc]; exact w1.trans (by rw [emc]; exact (u1.symm.trans (qa3 1 (by decide)).symm))) c_757
          · skip
            refine g_aload_n (q := 761) C dL_law_760 rfl (by first | exact hRef_r _ | exact hRef_o _ | exact hRef_n) rfl ?_
            refine g_iload (q := 763) C dL_law_761 rfl rfl ?_
            refine g_bipush (q := 765) (8) C dL_law_763 (by decide) rfl ?_
            refine g_idiv (q := 766) C dL_law_765 (by decide) rfl ?_; rw [dv8 hc]
            refine g_iload (q := 768) C dL_law_766 rfl rfl ?_
            refine g_bipush (q := 770) (8) C dL_law_768 (by decide) rfl ?_
            refine g_irem (q := 771) C dL_law_770 (by decide) rfl ?_; rw [rm8 hc]
            refine g_iconst (q := 772) (5) C dL_law_771 (by decide) rfl ?_
            refine g_callV3P (q := 775) C hy_X4_told (c_X4_told_n Γ l (nI (c / 8)) (nI (c % 8)) 5 hL2 hI2.inv (by rw [sTo_5 hc])) qw_371 (by exact hLq2.1) rfl ⟨Nat.le_of_ble_eq_true rfl, Nat.le_of_ble_eq_true rfl⟩ (Nat.le_of_ble_eq_true rfl) rfl dL_law_772 ⟨rfl, rfl⟩ ⟨by show _ ≤ 893913; omega, by show _ ≤ 6419885; omega⟩ rfl ?_
            refine g_aload (q := 777) C dL_law_775 rfl (by first | exact hRef_r _ | exact hRef_o _ | exact hRef_n) rfl ?_
            refine g_iload (q := 779) C dL_law_777 rfl rfl ?_
            refine g_aaldR (q := 780) C a rfl ha (by decide) dL_law_779 (KG _ _ _ ga rfl) (congrArg va_rf qa1) rfl ?_
            refine g_iconst (q := 781) (5) C dL_law_780 (by decide) rfl ?_
            refine g_iald (q := 782) C 5 rfl (by decide) (by decide) dL_law_781 (KG _ _ _ qa2 rfl) rfl ?_
            refine g_icmp_ne (t := 830) (q := 785) C dL_law_782 (by decide) rfl (fun c_782 => ?_) (fun c_782 => ?_)
            · skip
              first | exact absurd (by rw [sTo_5 hc]; exact w5.trans (by rw [emc]; exact (u5.symm.trans (qa3 5 (by decide)).symm))) c_782
            · skip
              refine g_aload_n (q := 786) C dL_law_785 rfl (by first | exact hRef_r _ | exact hRef_o _ | exact hRef_n) rfl ?_
              refine g_iload (q := 788) C dL_law_786 rfl rfl ?_
              refine g_bipush (q := 790) (8) C dL_law_788 (by decide) rfl ?_
              refine g_idiv (q := 791) C dL_law_790 (by decide) rfl ?_; rw [dv8 hc]
              refine g_iload (q := 793) C dL_law_791 rfl rfl ?_
              refine g_bipush (q := 795) (8) C dL_law_793 (by decide) rfl ?_
              refine g_irem (q := 796) C dL_law_795 (by decide) rfl ?_; rw [rm8 hc]
              refine g_iload (q := 798) C dL_law_796 rfl rfl ?_
              refine g_bipush (q := 800) (8) C dL_law_798 (by decide) rfl ?_
              refine g_idiv (q := 801) C dL_law_800 (by decide) rfl ?_; rw [dv8 ha]
              refine g_iload (q := 803) C dL_law_801 rfl rfl ?_
              refine g_bipush (q := 805) (8) C dL_law_803 (by decide) rfl ?_
              refine g_irem (q := 806) C dL_law_805 (by decide) rfl ?_; rw [rm8 ha]
              refine g_callVX4I (q := 809) C hy_X4_move (c_X4_move Γ l (nI (c / 8)) (nI (c % 8)) (nI (a / 8)) (nI (a % 8)) hl hL2 hI2.inv) (thrN_no (by rw [sMove_i hc ha (S := setB S (mvB (sB S) a c)) (by rw [show sB (setB S (mvB (sB S) a c)) c = sB S a from emc]; exact hsa) (by rw [show sB (setB S (mvB (sB S) a c)) a = emp from ema]; rfl)])) qw_135 (by exact hLq2.1) rfl ⟨Nat.le_of_ble_eq_true rfl, Nat.le_of_ble_eq_true rfl⟩ (Nat.le_of_ble_eq_true rfl) rfl dL_law_806 ⟨by show n + 1 + 1 ≤ 893913; omega, by show z + 6 + 6 ≤ 6419885; omega⟩ rfl (fun x_806 M_806 p_806 => ?_)
              rw [sMove_i hc ha (S := setB S (mvB (sB S) a c)) (by rw [show sB (setB S (mvB (sB S) a c)) c = sB S a from emc]; exact hsa) (by rw [show sB (setB S (mvB (sB S) a c)) a = emp from ema]; rfl)] at p_806
              obtain ⟨-, v806, hL3, k3⟩ := p_806
              refine g_widen (n' := n + 2) (z' := z + 12) (Nat.le_refl _) (Nat.le_refl _) ?_
              have eB : mvB (sB (setB S (mvB (sB S) a c))) c a = sB S := mvB_2 hac hec
              have eS : setB (setB S (mvB (sB S) a c)) (mvB (sB (setB S (mvB (sB S) a c))) c a) = S := by rw [eB]
              rw [eS] at hL3
              rw [eB] at v806
              have KG := k2.tr k3
              obtain ⟨_, _, _, _, _, _, _, _, _, _, _, _, _, hLq3⟩ := id hL3
              refine g_aload (q := 811) C dL_law_809 rfl (by first | exact hRef_r _ | exact hRef_o _ | exact hRef_n) rfl ?_
              refine g_iload (q := 813) C dL_law_811 rfl rfl ?_
              refine g_aaldR (q := 814) C a rfl ha (by decide) dL_law_813 (KG _ _ _ ga rfl) (congrArg va_rf qa1) rfl ?_
              refine g_bipush (q := 816) (6) C dL_law_814 (by decide) rfl ?_
              refine g_iald (q := 817) C 6 rfl (by decide) (by decide) dL_law_816 (KG _ _ _ qa2 rfl) rfl ?_
              refine g_icmp_ne (t := 830) (q := 820) C dL_law_817 (by decide) rfl (fun c_817 => ?_) (fun c_817 => ?_)
              · skip
                first | exact absurd (by rw [v806]; exact u6.symm.trans (qa3 6 (by decide)).symm) c_817
              · skip
                refine g_aload_n (q := 821) C dL_law_820 rfl (by first | exact hRef_r _ | exact hRef_o _ | exact hRef_n) rfl ?_
                refine g_callV0L (q := 824) C hy_X4_digest (c_X4_digest Γ l hL3 hI.inv) qw_451 (by exact hLq3.1) rfl ⟨Nat.le_of_ble_eq_true rfl, Nat.le_of_ble_eq_true rfl⟩ (Nat.le_of_ble_eq_true rfl) rfl dL_law_821 ⟨rfl, rfl⟩ ⟨by show _ ≤ 893913; omega, by show _ ≤ 6419885; omega⟩ rfl (fun x_821 M_821 p_821 => ?_)
                obtain ⟨v1, q9⟩ := p_821
                rw [q9]
                refine g_lload (q := 826) C dL_law_824 rfl rfl ?_
                refine g_lcmp (q := 827) C dL_law_826 rfl ?_
                refine g_if_eq (t := 832) (q := 830) C dL_law_827 (by decide) rfl (fun c_827 => ?_) (fun c_827 => ?_)
                · skip
                  exact kk _ _ _ _ 0 ⟨hL3, smP.cls hS hI KG, hI, h0⟩ (hT.kp KG rfl rfl)
                · skip
                  first | exact absurd (by rw [v1, hdg]; exact lgc _) c_827
