set_option maxRecDepth 100000 in
set_option maxHeartbeats 8000000 in
theorem same_561 {Γ : hGam} {l : Launch} {k9 : hCtx} {nm : String} {M0 : hM} (C : hC Γ l k9 RX5 nm cX5_isSame 12 (some .boolean) rm_X5_isSame (hA M0 (kS k9).heap.size)) {x y D : Nat} {S : hS} {ha oa la : Nat} {ob rx : Nat → Nat} {bd : Nat → Option Nat} (hLt : ltP Γ M0 x S) (hQ : smQ Γ M0 y S ha oa la ob rx bd) (hI : sI2 S D) {M : hM} {b1 b3 b4 : Nat} {sf : Nat → Int32} {g : Nat → Option Nat} {ar : Nat → Nat} {F : Nat → Nat → Int32} {ff : Nat → Int32} (hs : isS Γ M0 M S b1 b3 b4 sf g ar F ff) (hv : isV S F ff 40) (s0 : sf 0 = hIt (fCnt (sB S)) 0 40) (s2 : sf 2 = hIt (fSum (sB S)) 0 40) (o3 o4 o7 o8 o9 o10 o11 : Option Value) : hG Γ k9 (hA M0 (kS k9).heap.size) (hEnd Γ k9 M0 (hpI (fun a _ => a = 1)) rm_X5_isSame.cells rm_X5_isSame.slots) M 60 400 561 [some (.ref y), some (.ref x), some (.ref b1), o3, o4, some (.ref b3), some (.ref b4), o7, o8, o9, o10, o11] [] := by
  have hn6 := hI.1.1
  have ho6 := hI.1.2
  obtain ⟨pX, pH, pO, pLs, pB⟩ := id hQ
  obtain ⟨hf0, hHa, hHr⟩ := id pH
  obtain ⟨gf, ga, gb, gc⟩ := id pO
  obtain ⟨hk, h2, h3, h4, h5, h6, h7, h8, h9, h10, h11⟩ := id hs
  have hL := hLt.kp hk rfl rfl rfl rfl rfl rfl ⟨rfl, rfl⟩ rfl
  obtain ⟨_, _, _, _, _, _, _, _, _, _, _, _, _, hLq⟩ := id hL
  refine g_iconst (q := 562) (0) C dX5_isSame_561 (by decide) rfl ?_
  refine g_istore7 (q := 564) C dX5_isSame_562 (by first | rfl | exact hNw_rf _) rfl ?_
  refine h_loopU (P := fun h => ∀ o8 : Option Value, hG Γ k9 (hA M0 (kS k9).heap.size) (hEnd Γ k9 M0 (hpI (fun a _ => a = 1)) rm_X5_isSame.cells rm_X5_isSame.slots) M 60 400 564 [some (.ref y), some (.ref x), some (.ref b1), o3, o4, some (.ref b3), some (.ref b4), some (.int (nI h)), o8, o9, o10, o11] []) (N := (sN S)) (fun h ha iha => ?_) 0 (Nat.zero_le _) _
  intro o8a
  refine g_iload (q := 566) C dX5_isSame_564 rfl rfl ?_
  refine g_aload_n (q := 567) C dX5_isSame_566 rfl (by first | exact hRef_r _ | exact hRef_o _ | exact hRef_n) rfl ?_
  refine g_get (q := 570) C hcl_X5 3 (by decide) qw_640 rfl dX5_isSame_567 (by exact hk _ _ _ pX rfl) rfl rfl ?_
  refine g_alenR (q := 571) C dX5_isSame_570 (hk _ _ _ hHa rfl) rfl ?_
  refine g_icmp_ge (t := 616) (q := 574) C dX5_isSame_571 (by decide) rfl (fun c_571 => ?_) (fun c_571 => ?_)
  · skip
    have hNa := nI_ge_eq ha (by omega) c_571
    refine g_iconst (q := 617) (0) C dX5_isSame_616 (by decide) rfl ?_
    refine g_istore7 (q := 619) C dX5_isSame_617 (by first | rfl | exact hNw_rf _) rfl ?_
    refine h_loopU (P := fun o => ∀ o8 : Option Value, hG Γ k9 (hA M0 (kS k9).heap.size) (hEnd Γ k9 M0 (hpI (fun a _ => a = 1)) rm_X5_isSame.cells rm_X5_isSame.slots) M 60 400 619 [some (.ref y), some (.ref x), some (.ref b1), o3, o4, some (.ref b3), some (.ref b4), some (.int (nI o)), o8, o9, o10, o11] []) (N := (sO S)) (fun o hc ihc => ?_) 0 (Nat.zero_le _) _
    intro o8c
    refine g_iload (q := 621) C dX5_isSame_619 rfl rfl ?_
    refine g_aload_n (q := 622) C dX5_isSame_621 rfl (by first | exact hRef_r _ | exact hRef_o _ | exact hRef_n) rfl ?_
    refine g_get (q := 625) C hcl_X5 4 (by decide) qw_642 rfl dX5_isSame_622 (by exact hk _ _ _ pX rfl) rfl rfl ?_
    refine g_alenR (q := 626) C dX5_isSame_625 (hk _ _ _ ga rfl) rfl ?_
    refine g_icmp_ge (t := 687) (q := 629) C dX5_isSame_626 (by decide) rfl (fun c_626 => ?_) (fun c_626 => ?_)
    · skip
      have hNc := nI_ge_eq hc (by omega) c_626
      refine g_aload_n (q := 688) C dX5_isSame_687 rfl (by first | exact hRef_r _ | exact hRef_o _ | exact hRef_n) rfl ?_
      refine g_callV0F (q := 691) C hy_X4_mean (c_X4_mean Γ l hL hI.inv) qw_499 (by exact hLq.1) rfl ⟨Nat.le_of_ble_eq_true rfl, Nat.le_of_ble_eq_true rfl⟩ (Nat.le_of_ble_eq_true rfl) rfl dX5_isSame_688 ⟨rfl, rfl⟩ ⟨Nat.le_refl _, Nat.le_refl _⟩ rfl ?_
      refine g_aload_n (q := 692) C dX5_isSame_691 rfl (by first | exact hRef_r _ | exact hRef_o _ | exact hRef_n) rfl ?_
      refine g_iconst (q := 693) (0) C dX5_isSame_692 (by decide) rfl ?_
      refine g_iald (q := 694) C 0 rfl (by decide) (by decide) dX5_isSame_693 (h2) rfl ?_
      refine g_if_ne (t := 701) (q := 697) C dX5_isSame_694 (by decide) rfl (fun c_694 => ?_) (fun c_694 => ?_)
      · skip
        refine g_aload_n (q := 702) C dX5_isSame_701 rfl (by first | exact hRef_r _ | exact hRef_o _ | exact hRef_n) rfl ?_
        refine g_iconst (q := 703) (2) C dX5_isSame_702 (by decide) rfl ?_
        refine g_iald (q := 704) C 2 rfl (by decide) (by decide) dX5_isSame_703 (h2) rfl ?_
        refine g_i2d (q := 705) C dX5_isSame_704 rfl ?_
        refine g_aload_n (q := 706) C dX5_isSame_705 rfl (by first | exact hRef_r _ | exact hRef_o _ | exact hRef_n) rfl ?_
        refine g_iconst (q := 707) (0) C dX5_isSame_706 (by decide) rfl ?_
        refine g_iald (q := 708) C 0 rfl (by decide) (by decide) dX5_isSame_707 (h2) rfl ?_
        refine g_i2d (q := 709) C dX5_isSame_708 rfl ?_
        refine g_ddiv (q := 710) C (by rw [s2, s0]; exact (mean_sm hI.inv (fun q => c_694 (s0.trans q))).n) dX5_isSame_709 rfl ?_
        refine g_dcmp (q := 711) C dX5_isSame_710 rfl ?_
        refine g_if_ne (t := 718) (q := 714) C dX5_isSame_711 (by decide) rfl (fun c_711 => ?_) (fun c_711 => ?_)
        · skip
          first | exact absurd (by rw [show sMean S = FP.dconst0 from if_pos (s0.symm.trans c_694)]; rfl) c_711 | exact absurd (by rw [s2, s0, ← show sMean S = _ from if_neg (fun q => c_694 (s0.trans q)), (sMean_sm hI.inv).cmp]; rfl) c_711
        · skip
          refine g_iconst (q := 715) (1) C dX5_isSame_714 (by decide) rfl ?_
          refine g_goto (t := 719) C dX5_isSame_715 (by decide) ?_
          exact g_zret C dX5_isSame_719 (by first | rfl | exact hNarB _) (rfl) (Nat.le_refl _) (Nat.le_refl _)
      · skip
        refine g_dconst0 (q := 698) C dX5_isSame_697 rfl ?_
        refine g_goto (t := 710) C dX5_isSame_698 (by decide) ?_
        refine g_dcmp (q := 711) C dX5_isSame_710 rfl ?_
        refine g_if_ne (t := 718) (q := 714) C dX5_isSame_711 (by decide) rfl (fun c_711 => ?_) (fun c_711 => ?_)
        · skip
          first | exact absurd (by rw [show sMean S = FP.dconst0 from if_pos (s0.symm.trans c_694)]; rfl) c_711 | exact absurd (by rw [s2, s0, ← show sMean S = _ from if_neg (fun q => c_694 (s0.trans q)), (sMean_sm hI.inv).cmp]; rfl) c_711
        · skip
          refine g_iconst (q := 715) (1) C dX5_isSame_714 (by decide) rfl ?_
          refine g_goto (t := 719) C dX5_isSame_715 (by decide) ?_
          exact g_zret C dX5_isSame_719 (by first | rfl | exact hNarB _) (rfl) (Nat.le_refl _) (Nat.le_refl _)
    · skip
      have hltc := nI_nge_lt hc (by omega) c_626
      obtain ⟨z1, fo, z2, z3, z4, z5, z6⟩ := gb o hltc
      refine g_iconst (q := 630) (0) C dX5_isSame_629 (by decide) rfl ?_
      refine g_istore8 (q := 632) C dX5_isSame_630 (by first | rfl | exact hNw_rf _) rfl ?_
      refine h_loopU (P := fun w => hG Γ k9 (hA M0 (kS k9).heap.size) (hEnd Γ k9 M0 (hpI (fun a _ => a = 1)) rm_X5_isSame.cells rm_X5_isSame.slots) M 60 400 632 [some (.ref y), some (.ref x), some (.ref b1), o3, o4, some (.ref b3), some (.ref b4), some (.int (nI o)), some (.int (nI w)), o9, o10, o11] []) (N := 5) (fun w hd ihd => ?_) 0 (Nat.zero_le _) 
      refine g_iload (q := 634) C dX5_isSame_632 rfl rfl ?_
      refine g_iconst (q := 635) (5) C dX5_isSame_634 (by decide) rfl ?_
      refine g_icmp_ge (t := 681) (q := 638) C dX5_isSame_635 (by decide) rfl (fun c_635 => ?_) (fun c_635 => ?_)
      · skip
        have hNd := nI_ge_eq hd (by omega) c_635
        refine g_iinc7 (q := 684) (1) C dX5_isSame_681 (by decide) (by first | rfl | exact hNw_rf _) rfl ?_
        refine g_goto (t := 619) C dX5_isSame_684 (by decide) ?_
        rw [nI_1]
        exact ihc hltc _
      · skip
        have hltd := nI_nge_lt hd (by omega) c_635
        refine g_aload_n (q := 639) C dX5_isSame_638 rfl (by first | exact hRef_r _ | exact hRef_o _ | exact hRef_n) rfl ?_
        refine g_iload (q := 641) C dX5_isSame_639 rfl rfl ?_
        refine g_iload (q := 643) C dX5_isSame_641 rfl rfl ?_
        refine g_callV2P (q := 646) C hy_X4_asked (c_X4_asked_n Γ l (nI o) (nI w) hL hI.inv (by rw [sAsked_ok ho6 hltc hltd])) qw_498 (by exact hLq.1) rfl ⟨Nat.le_of_ble_eq_true rfl, Nat.le_of_ble_eq_true rfl⟩ (Nat.le_of_ble_eq_true rfl) rfl dX5_isSame_643 ⟨rfl, rfl⟩ ⟨Nat.le_refl _, Nat.le_refl _⟩ rfl ?_
        refine g_iload (q := 648) C dX5_isSame_646 rfl rfl ?_
        refine g_iconst (q := 649) (4) C dX5_isSame_648 (by decide) rfl ?_
        refine g_icmp_ge (t := 665) (q := 652) C dX5_isSame_649 (by decide) rfl (fun c_649 => ?_) (fun c_649 => ?_)
        · skip
          have w4 : w = 4 := by
            rcases Nat.lt_or_ge w 4 with q | q
            · exact absurd c_649 (nI_ge q (by decide))
            · omega
          refine g_aload (q := 667) C dX5_isSame_665 rfl (by first | exact hRef_r _ | exact hRef_o _ | exact hRef_n) rfl ?_
          refine g_iload (q := 669) C dX5_isSame_667 rfl rfl ?_
          refine g_iald (q := 670) C o rfl hltc (by omega) dX5_isSame_669 (h8) rfl ?_
          refine g_icmp_eq (t := 675) (q := 673) C dX5_isSame_670 (by decide) rfl (fun c_670 => ?_) (fun c_670 => ?_)
          · skip
            refine g_iinc8 (q := 678) (1) C dX5_isSame_675 (by decide) (by first | rfl | exact hNw_rf _) rfl ?_
            refine g_goto (t := 632) C dX5_isSame_678 (by decide) ?_
            rw [nI_1]
            exact ihd hltd
          · skip
            first | exact absurd (by rw [sAsked_ok ho6 hltc hltd]; exact (ord_as z3 z4 z5 z6 w4).symm) c_670 | exact absurd (by rw [sAsked_ok ho6 hltc hltd, w4]; exact (isV_as hv hltc).symm) c_670
        · skip
          have w4 : w < 4 := by
            rcases Nat.lt_or_ge w 4 with q | q
            · exact q
            · exact absurd (nI_le q (by omega)) c_649
          refine g_aload_n (q := 653) C dX5_isSame_652 rfl (by first | exact hRef_r _ | exact hRef_o _ | exact hRef_n) rfl ?_
          refine g_get (q := 656) C hcl_X5 4 (by decide) qw_642 rfl dX5_isSame_653 (by exact hk _ _ _ pX rfl) rfl rfl ?_
          refine g_iload (q := 658) C dX5_isSame_656 rfl rfl ?_
          refine g_aaldR (q := 659) C o rfl hltc (by omega) dX5_isSame_658 (hk _ _ _ ga rfl) (congrArg va_rf z1) rfl ?_
          refine g_iload (q := 661) C dX5_isSame_659 rfl rfl ?_
          refine g_iald (q := 662) C w rfl w4 (by decide) dX5_isSame_661 (hk _ _ _ z2 rfl) rfl ?_
          refine g_goto (t := 670) C dX5_isSame_662 (by decide) ?_
          refine g_icmp_eq (t := 675) (q := 673) C dX5_isSame_670 (by decide) rfl (fun c_670 => ?_) (fun c_670 => ?_)
          · skip
            refine g_iinc8 (q := 678) (1) C dX5_isSame_675 (by decide) (by first | rfl | exact hNw_rf _) rfl ?_
            refine g_goto (t := 632) C dX5_isSame_678 (by decide) ?_
            rw [nI_1]
            exact ihd hltd
          · skip
            first | exact absurd (by rw [sAsked_ok ho6 hltc hltd]; exact (ord_as z3 z4 z5 z6 w4).symm) c_670 | exact absurd (by rw [sAsked_ok ho6 hltc hltd, w4]; exact (isV_as hv hltc).symm) c_670
  · skip
    have hlta := nI_nge_lt ha (by omega) c_571
    refine g_iconst (q := 575) (0) C dX5_isSame_574 (by decide) rfl ?_
    refine g_istore8 (q := 577) C dX5_isSame_575 (by first | rfl | exact hNw_rf _) rfl ?_
    refine h_loopU (P := fun w => hG Γ k9 (hA M0 (kS k9).heap.size) (hEnd Γ k9 M0 (hpI (fun a _ => a = 1)) rm_X5_isSame.cells rm_X5_isSame.slots) M 60 400 577 [some (.ref y), some (.ref x), some (.ref b1), o3, o4, some (.ref b3), some (.ref b4), some (.int (nI h)), some (.int (nI w)), o9, o10, o11] []) (N := 5) (fun w hb ihb => ?_) 0 (Nat.zero_le _) 
    refine g_iload (q := 579) C dX5_isSame_577 rfl rfl ?_
    refine g_iconst (q := 580) (5) C dX5_isSame_579 (by decide) rfl ?_
    refine g_icmp_ge (t := 610) (q := 583) C dX5_isSame_580 (by decide) rfl (fun c_580 => ?_) (fun c_580 => ?_)
    · skip
      have hNb := nI_ge_eq hb (by omega) c_580
      refine g_iinc7 (q := 613) (1) C dX5_isSame_610 (by decide) (by first | rfl | exact hNw_rf _) rfl ?_
      refine g_goto (t := 564) C dX5_isSame_613 (by decide) ?_
      rw [nI_1]
      exact iha hlta _
    · skip
      have hltb := nI_nge_lt hb (by omega) c_580
      refine g_aload_n (q := 584) C dX5_isSame_583 rfl (by first | exact hRef_r _ | exact hRef_o _ | exact hRef_n) rfl ?_
      refine g_iload (q := 586) C dX5_isSame_584 rfl rfl ?_
      refine g_iload (q := 588) C dX5_isSame_586 rfl rfl ?_
      refine g_callV2P (q := 591) C hy_X4_about (c_X4_about_n Γ l (nI h) (nI w) hL hI.inv (by rw [sAbout_ok hn6 hlta hltb])) qw_497 (by exact hLq.1) rfl ⟨Nat.le_of_ble_eq_true rfl, Nat.le_of_ble_eq_true rfl⟩ (Nat.le_of_ble_eq_true rfl) rfl dX5_isSame_588 ⟨rfl, rfl⟩ ⟨Nat.le_refl _, Nat.le_refl _⟩ rfl ?_
      refine g_aload (q := 593) C dX5_isSame_591 rfl (by first | exact hRef_r _ | exact hRef_o _ | exact hRef_n) rfl ?_
      refine g_iload (q := 595) C dX5_isSame_593 rfl rfl ?_
      refine g_aaldR (q := 596) C h rfl hlta (by omega) dX5_isSame_595 (h3) (congrArg va_rf (h4 h hlta)) rfl ?_
      refine g_iload (q := 598) C dX5_isSame_596 rfl rfl ?_
      refine g_iald (q := 599) C w rfl hltb (by decide) dX5_isSame_598 (h5 h hlta) rfl ?_
      refine g_icmp_eq (t := 604) (q := 602) C dX5_isSame_599 (by decide) rfl (fun c_599 => ?_) (fun c_599 => ?_)
      · skip
        refine g_iinc8 (q := 607) (1) C dX5_isSame_604 (by decide) (by first | rfl | exact hNw_rf _) rfl ?_
        refine g_goto (t := 577) C dX5_isSame_607 (by decide) ?_
        rw [nI_1]
        exact ihb hltb
      · skip
        exact absurd (by rw [sAbout_ok hn6 hlta hltb]; exact (isV_ab hv hlta hltb).symm) c_599
