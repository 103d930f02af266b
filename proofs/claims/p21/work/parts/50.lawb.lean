theorem sAb_n {S : hS} {h : Nat} (hn : sN S ≤ 6) (hh : h < sN S) : (sAbout S (nI h) 1 = (0, abI S h 1)) ∧ (sAbout S (nI h) 2 = (0, abI S h 2)) ∧ (sAbout S (nI h) 3 = (0, abI S h 3)) ∧ sAbout S (nI h) 4 = (0, abI S h 4) := ⟨sAbout_ok (w := 1) hn hh (by decide), sAbout_ok (w := 2) hn hh (by decide), sAbout_ok (w := 3) hn hh (by decide), sAbout_ok (w := 4) hn hh (by decide)⟩
set_option maxRecDepth 100000 in
set_option maxHeartbeats 8000000 in
theorem law_391 {Γ : hGam} {l : Launch} {k9 : hCtx} {nm : String} {A : Nat → Prop} {Q : State → Prop} (C : hC Γ l k9 RL nm cL_law 24 (some .boolean) room_1 A) (hl : l.stackTraces = false) {x y D : Nat} {S : hS} {M : hM} {n z tm b ta : Nat} {xv c8 c9 c10 : Int32} {dg : Int64} (hn : n + 1000 ≤ 893913) (hz : z + 10000 ≤ 6419885) (hLS : lawS Γ M x y S D) (h8 : c8 = hIt (fCnt (sB S)) 0 40) (h9 : c9 = hIt (fBad (sB S)) 0 40) (h10 : c10 = hIt (fSum (sB S)) 0 40) (o11 o12 o13 o14 o15 o16 o17 o18 o19 o20 o21 o22 o23 : Option Value) (kk : hG Γ k9 A Q M (n) (z) 448 [some (.ref b), some (.ref x), some (.ref y), some (.int (nI tm)), some (.int xv), some (.long dg), none, some (.ref ta), some (.int c8), some (.int c9), some (.int c10), o11, o12, o13, o14, o15, o16, o17, o18, o19, o20, o21, o22, o23] []) : hG Γ k9 A Q M (n) (z) 391 [some (.ref b), some (.ref x), some (.ref y), some (.int (nI tm)), some (.int xv), some (.long dg), none, some (.ref ta), some (.int c8), some (.int c9), some (.int c10), o11, o12, o13, o14, o15, o16, o17, o18, o19, o20, o21, o22, o23] [] := by
  obtain ⟨hL, hS, hI, h0⟩ := id hLS
  obtain ⟨_, _, _, _, _, _, _, _, _, _, _, _, _, hLq⟩ := id hL
  refine g_iload (q := 393) C dL_law_391 rfl rfl ?_
  refine g_aload_n (q := 394) C dL_law_393 rfl (by first | exact hRef_r _ | exact hRef_o _ | exact hRef_n) rfl ?_
  refine g_iconst (q := 395) (2) C dL_law_394 (by decide) rfl ?_
  refine g_callV1P (q := 398) C hy_X4_count (c_X4_count_n Γ l 2 hL hI.inv (by rw [sCnt_2])) qw_415 (by exact hLq.1) rfl ⟨Nat.le_of_ble_eq_true rfl, Nat.le_of_ble_eq_true rfl⟩ (Nat.le_of_ble_eq_true rfl) rfl dL_law_395 ⟨rfl, rfl⟩ ⟨by show _ ≤ 893913; omega, by show _ ≤ 6419885; omega⟩ rfl ?_
  refine g_icmp_ne (t := 446) (q := 401) C dL_law_398 (by decide) rfl (fun c_398 => ?_) (fun c_398 => ?_)
  · skip
    first | exact absurd (by rw [sCnt_2, cnI_2]; exact h8) c_398
  · skip
    refine g_iload (q := 403) C dL_law_401 rfl rfl ?_
    refine g_aload_n (q := 404) C dL_law_403 rfl (by first | exact hRef_r _ | exact hRef_o _ | exact hRef_n) rfl ?_
    refine g_iconst (q := 405) (3) C dL_law_404 (by decide) rfl ?_
    refine g_callV1P (q := 408) C hy_X4_count (c_X4_count_n Γ l 3 hL hI.inv (by rw [sCnt_3])) qw_415 (by exact hLq.1) rfl ⟨Nat.le_of_ble_eq_true rfl, Nat.le_of_ble_eq_true rfl⟩ (Nat.le_of_ble_eq_true rfl) rfl dL_law_405 ⟨rfl, rfl⟩ ⟨by show _ ≤ 893913; omega, by show _ ≤ 6419885; omega⟩ rfl ?_
    refine g_icmp_ne (t := 446) (q := 411) C dL_law_408 (by decide) rfl (fun c_408 => ?_) (fun c_408 => ?_)
    · skip
      first | exact absurd (by rw [sCnt_3, cnI_3]; exact h9) c_408
    · skip
      refine g_iload (q := 413) C dL_law_411 rfl rfl ?_
      refine g_aload_n (q := 414) C dL_law_413 rfl (by first | exact hRef_r _ | exact hRef_o _ | exact hRef_n) rfl ?_
      refine g_bipush (q := 416) (8) C dL_law_414 (by decide) rfl ?_
      refine g_callV1P (q := 419) C hy_X4_count (c_X4_count_n Γ l 8 hL hI.inv (by rw [sCnt_8])) qw_415 (by exact hLq.1) rfl ⟨Nat.le_of_ble_eq_true rfl, Nat.le_of_ble_eq_true rfl⟩ (Nat.le_of_ble_eq_true rfl) rfl dL_law_416 ⟨rfl, rfl⟩ ⟨by show _ ≤ 893913; omega, by show _ ≤ 6419885; omega⟩ rfl ?_
      refine g_icmp_ne (t := 446) (q := 422) C dL_law_419 (by decide) rfl (fun c_419 => ?_) (fun c_419 => ?_)
      · skip
        first | exact absurd (by rw [sCnt_8, cnI_8]; exact h10) c_419
      · skip
        refine g_aload_n (q := 423) C dL_law_422 rfl (by first | exact hRef_r _ | exact hRef_o _ | exact hRef_n) rfl ?_
        refine g_callV0F (q := 426) C hy_X4_mean (c_X4_mean Γ l hL hI.inv) qw_447 (by exact hLq.1) rfl ⟨Nat.le_of_ble_eq_true rfl, Nat.le_of_ble_eq_true rfl⟩ (Nat.le_of_ble_eq_true rfl) rfl dL_law_423 ⟨rfl, rfl⟩ ⟨by show _ ≤ 893913; omega, by show _ ≤ 6419885; omega⟩ rfl ?_
        refine g_iload (q := 428) C dL_law_426 rfl rfl ?_
        refine g_if_ne (t := 435) (q := 431) C dL_law_428 (by decide) rfl (fun c_428 => ?_) (fun c_428 => ?_)
        · skip
          refine g_iload (q := 437) C dL_law_435 rfl rfl ?_
          refine g_i2d (q := 438) C dL_law_437 rfl ?_
          refine g_iload (q := 440) C dL_law_438 rfl rfl ?_
          refine g_i2d (q := 441) C dL_law_440 rfl ?_
          refine g_ddiv (q := 442) C (by rw [h10, h8]; exact (mean_sm hI.inv (fun q => c_428 (h8.trans q))).n) dL_law_441 rfl ?_
          refine g_dcmp (q := 443) C dL_law_442 rfl ?_
          refine g_if_eq (t := 448) (q := 446) C dL_law_443 (by decide) rfl (fun c_443 => ?_) (fun c_443 => ?_)
          · skip
            exact kk
          · skip
            first | exact absurd (by rw [show sMean S = FP.dconst0 from if_pos (h8.symm.trans c_428)]; rfl) c_443 | exact absurd (by rw [h10, h8, ← show sMean S = _ from if_neg (fun q => c_428 (h8.trans q)), (sMean_sm hI.inv).cmp]; rfl) c_443
        · skip
          refine g_dconst0 (q := 432) C dL_law_431 rfl ?_
          refine g_goto (t := 442) C dL_law_432 (by decide) ?_
          refine g_dcmp (q := 443) C dL_law_442 rfl ?_
          refine g_if_eq (t := 448) (q := 446) C dL_law_443 (by decide) rfl (fun c_443 => ?_) (fun c_443 => ?_)
          · skip
            exact kk
          · skip
            first | exact absurd (by rw [show sMean S = FP.dconst0 from if_pos (h8.symm.trans c_428)]; rfl) c_443 | exact absurd (by rw [h10, h8, ← show sMean S = _ from if_neg (fun q => c_428 (h8.trans q)), (sMean_sm hI.inv).cmp]; rfl) c_443
theorem sFo_8 {S : hS} : sFore S 3 2 8 = (0, hIt (fSum (sB (goN S (nI 2) 3))) 0 40) := sFore_8 (n := 3) (d := 2) (by decide) (by decide) (by decide)
theorem sFo_3 {S : hS} : sFore S 3 2 3 = (0, hIt (fBad (sB (goN S (nI 2) 3))) 0 40) := sFore_3 (n := 3) (d := 2) (by decide) (by decide) (by decide)
set_option maxRecDepth 100000 in
set_option maxHeartbeats 8000000 in
theorem law_448 {Γ : hGam} {l : Launch} {k9 : hCtx} {nm : String} {A : Nat → Prop} {Q : State → Prop} (C : hC Γ l k9 RL nm cL_law 24 (some .boolean) room_1 A) (hl : l.stackTraces = false) {x y D : Nat} {S : hS} {M : hM} {n z tm b ta : Nat} {xv c8 c9 c10 : Int32} {dg : Int64} (hn : n + 1000 ≤ 893913) (hz : z + 10000 ≤ 6419885) (hLS : lawS Γ M x y S D) (hT : tdP Γ M ta (sB S)) (hdg : dg = sDig S) (h8 : c8 = hIt (fCnt (sB S)) 0 40) (h9 : c9 = hIt (fBad (sB S)) 0 40) (h10 : c10 = hIt (fSum (sB S)) 0 40) (o11 o12 o13 o14 o15 o16 o17 o18 o19 o20 o21 o22 o23 : Option Value) (kk : ∀ (M1 : hM) (p11 p12 : Int32) (p13 : Int32), lawS Γ M1 x y S D → tdP Γ M1 ta (sB S) → hG Γ k9 A Q M1 (n + 2) (z + 12) 590 [some (.ref b), some (.ref x), some (.ref y), some (.int (nI tm)), some (.int xv), some (.long dg), none, some (.ref ta), some (.int c8), some (.int c9), some (.int c10), some (.int p11), some (.int p12), some (.int p13), o14, o15, o16, o17, o18, o19, o20, o21, o22, o23] []) : hG Γ k9 A Q M (n) (z) 448 [some (.ref b), some (.ref x), some (.ref y), some (.int (nI tm)), some (.int xv), some (.long dg), none, some (.ref ta), some (.int c8), some (.int c9), some (.int c10), o11, o12, o13, o14, o15, o16, o17, o18, o19, o20, o21, o22, o23] [] := by
  obtain ⟨hL, hS, hI, h0⟩ := id hLS
  have hn6 := hI.1.1
  obtain ⟨_, _, _, _, _, _, _, _, _, _, _, _, _, hLq⟩ := id hL
  refine g_iconst (q := 449) (0) C dL_law_448 (by decide) rfl ?_
  refine g_istore11 (q := 451) C dL_law_449 (by first | rfl | exact hNw_rf _) rfl ?_
  refine g_iconst (q := 452) (0) C dL_law_451 (by decide) rfl ?_
  refine g_istore12 (q := 454) C dL_law_452 (by first | rfl | exact hNw_rf _) rfl ?_
  refine g_iconst (q := 455) (0) C dL_law_454 (by decide) rfl ?_
  refine g_istore13 (q := 457) C dL_law_455 (by first | rfl | exact hNw_rf _) rfl ?_
  refine h_loopU (P := fun h => ∀ c11 c12 : Int32, c11 = sumG (fun c => abI S c 2) h → c12 = sumG (fun c => abI S c 3) h → hG Γ k9 A Q M (n) (z) 457 [some (.ref b), some (.ref x), some (.ref y), some (.int (nI tm)), some (.int xv), some (.long dg), none, some (.ref ta), some (.int c8), some (.int c9), some (.int c10), some (.int c11), some (.int c12), some (.int (nI h)), o14, o15, o16, o17, o18, o19, o20, o21, o22, o23] []) (N := sN S) (fun h hh ih => ?_) 0 (Nat.zero_le _) _ _ rfl rfl
  intro c11 c12 h11 h12
  refine g_iload (q := 459) C dL_law_457 rfl rfl ?_
  refine g_aload_n (q := 460) C dL_law_459 rfl (by first | exact hRef_r _ | exact hRef_o _ | exact hRef_n) rfl ?_
  refine g_iconst (q := 461) (1) C dL_law_460 (by decide) rfl ?_
  refine g_callV1P (q := 464) C hy_X4_count (c_X4_count_n Γ l 1 hL hI.inv (by rw [sCnt_1])) qw_415 (by exact hLq.1) rfl ⟨Nat.le_of_ble_eq_true rfl, Nat.le_of_ble_eq_true rfl⟩ (Nat.le_of_ble_eq_true rfl) rfl dL_law_461 ⟨rfl, rfl⟩ ⟨by show _ ≤ 893913; omega, by show _ ≤ 6419885; omega⟩ rfl ?_
  refine g_icmp_ge (t := 539) (q := 467) C dL_law_464 (by decide) rfl (fun c_464 => ?_) (fun c_464 => ?_)
  · skip
    rw [sCnt_1, cnI_1] at c_464
    have hNh := nI_ge_eq hh (by omega) c_464
    have e11 : c11 = hIt (fCnt (sB S)) 0 40 := by
      rw [h11, hNh, ← sum_hc (n := sN S) (fun i hi j hj => ((hI.2.2.2.1 i hi).tk hj).1) 40 (Nat.le_refl _)]
      exact sum_cg (fun c _ => abI_2)
    have e12 : c12 = hIt (fBad (sB S)) 0 40 := by
      rw [h12, hNh, ← sum_hd (n := sN S) (fun i hi j hj => ((hI.2.2.2.1 i hi).tk hj).1) 40 (Nat.le_refl _)]
      exact sum_cg (fun c _ => abI_3)
    refine g_iload (q := 541) C dL_law_539 rfl rfl ?_
    refine g_iload (q := 543) C dL_law_541 rfl rfl ?_
    refine g_icmp_ne (t := 588) (q := 546) C dL_law_543 (by decide) rfl (fun c_543 => ?_) (fun c_543 => ?_)
    · skip
      first | exact absurd (by rw [e11, h8]) c_543
    · skip
      refine g_iload (q := 548) C dL_law_546 rfl rfl ?_
      refine g_iload (q := 550) C dL_law_548 rfl rfl ?_
      refine g_icmp_ne (t := 588) (q := 553) C dL_law_550 (by decide) rfl (fun c_550 => ?_) (fun c_550 => ?_)
      · skip
        first | exact absurd (by rw [e12, h9]) c_550
      · skip
        refine g_aload_n (q := 554) C dL_law_553 rfl (by first | exact hRef_r _ | exact hRef_o _ | exact hRef_n) rfl ?_
        refine g_iconst (q := 555) (3) C dL_law_554 (by decide) rfl ?_
        refine g_iconst (q := 556) (2) C dL_law_555 (by decide) rfl ?_
        refine g_bipush (q := 558) (8) C dL_law_556 (by decide) rfl ?_
        refine g_callVX3I (q := 561) C hy_X4_foresee (c_X4_foresee Γ l 3 2 8 hl hL hI.inv) (thrN_no (by rw [sFo_8])) qw_437 (by exact hLq.1) rfl ⟨Nat.le_of_ble_eq_true rfl, Nat.le_of_ble_eq_true rfl⟩ (Nat.le_of_ble_eq_true rfl) rfl dL_law_558 ⟨by show n + 1 ≤ 893913; omega, by show z + 6 ≤ 6419885; omega⟩ rfl (fun x_558 M_558 p_558 => ?_)
        rw [sFo_8] at p_558
        obtain ⟨-, v558, hL2, k2⟩ := p_558
        refine g_widen (n' := n + 1) (z' := z + 6) (Nat.le_refl _) (Nat.le_refl _) ?_
        obtain ⟨_, _, _, _, _, _, _, _, _, _, _, _, _, hLq2⟩ := id hL2
        refine g_iload (q := 563) C dL_law_561 rfl rfl ?_
        refine g_icmp_gt (t := 588) (q := 566) C dL_law_563 (by decide) rfl (fun c_563 => ?_) (fun c_563 => ?_)
        · skip
          first | exact absurd c_563 (by rw [v558, h10]; exact fore_sum hI (by decide))
        · skip
          refine g_aload_n (q := 567) C dL_law_566 rfl (by first | exact hRef_r _ | exact hRef_o _ | exact hRef_n) rfl ?_
          refine g_iconst (q := 568) (3) C dL_law_567 (by decide) rfl ?_
          refine g_iconst (q := 569) (2) C dL_law_568 (by decide) rfl ?_
          refine g_iconst (q := 570) (3) C dL_law_569 (by decide) rfl ?_
          refine g_callVX3I (q := 573) C hy_X4_foresee (c_X4_foresee Γ l 3 2 3 hl hL2 hI.inv) (thrN_no (by rw [sFo_3])) qw_437 (by exact hLq2.1) rfl ⟨Nat.le_of_ble_eq_true rfl, Nat.le_of_ble_eq_true rfl⟩ (Nat.le_of_ble_eq_true rfl) rfl dL_law_570 ⟨by show n + 1 + 1 ≤ 893913; omega, by show z + 6 + 6 ≤ 6419885; omega⟩ rfl (fun x_570 M_570 p_570 => ?_)
          rw [sFo_3] at p_570
          obtain ⟨-, v570, hL3, k3⟩ := p_570
          refine g_widen (n' := n + 2) (z' := z + 12) (Nat.le_refl _) (Nat.le_refl _) ?_
          obtain ⟨_, _, _, _, _, _, _, _, _, _, _, _, _, hLq3⟩ := id hL3
          refine g_iload (q := 575) C dL_law_573 rfl rfl ?_
          refine g_icmp_lt (t := 588) (q := 578) C dL_law_575 (by decide) rfl (fun c_575 => ?_) (fun c_575 => ?_)
          · skip
            first | exact absurd c_575 (by rw [v570, h9]; exact fore_bad hI (by decide))
          · skip
            refine g_aload_n (q := 579) C dL_law_578 rfl (by first | exact hRef_r _ | exact hRef_o _ | exact hRef_n) rfl ?_
            refine g_callV0L (q := 582) C hy_X4_digest (c_X4_digest Γ l hL3 hI.inv) qw_451 (by exact hLq3.1) rfl ⟨Nat.le_of_ble_eq_true rfl, Nat.le_of_ble_eq_true rfl⟩ (Nat.le_of_ble_eq_true rfl) rfl dL_law_579 ⟨rfl, rfl⟩ ⟨by show _ ≤ 893913; omega, by show _ ≤ 6419885; omega⟩ rfl (fun x_579 M_579 p_579 => ?_)
            obtain ⟨v1, rfl⟩ := p_579
            refine g_lload (q := 584) C dL_law_582 rfl rfl ?_
            refine g_lcmp (q := 585) C dL_law_584 rfl ?_
            refine g_if_eq (t := 590) (q := 588) C dL_law_585 (by decide) rfl (fun c_585 => ?_) (fun c_585 => ?_)
            · skip
              have kAll := k2.tr k3
              exact kk _ _ _ _ ⟨hL3, smP.cls hS hI kAll, hI, h0⟩ (hT.kp kAll rfl rfl)
            · skip
              first | exact absurd (by rw [v1, hdg]; exact lgc _) c_585
  · skip
    rw [sCnt_1, cnI_1] at c_464
    have hlth := nI_nge_lt hh (by omega) c_464
    obtain ⟨a1, a2, a3, a4⟩ := sAb_n hn6 hlth
    have b2 : (sAbout S (nI h) 2).2 = abI S h 2 := by rw [a2]
    have b3 : (sAbout S (nI h) 3).2 = abI S h 3 := by rw [a3]
    have b4 : (sAbout S (nI h) 4).2 = abI S h 4 := by rw [a4]
    refine g_iload (q := 469) C dL_law_467 rfl rfl ?_
    refine g_aload_n (q := 470) C dL_law_469 rfl (by first | exact hRef_r _ | exact hRef_o _ | exact hRef_n) rfl ?_
    refine g_iload (q := 472) C dL_law_470 rfl rfl ?_
    refine g_iconst (q := 473) (2) C dL_law_472 (by decide) rfl ?_
    refine g_callV2P (q := 476) C hy_X4_about (c_X4_about_n Γ l (nI h) 2 hL hI.inv (by rw [a2])) qw_381 (by exact hLq.1) rfl ⟨Nat.le_of_ble_eq_true rfl, Nat.le_of_ble_eq_true rfl⟩ (Nat.le_of_ble_eq_true rfl) rfl dL_law_473 ⟨rfl, rfl⟩ ⟨by show _ ≤ 893913; omega, by show _ ≤ 6419885; omega⟩ rfl ?_
    refine g_iadd (q := 477) C dL_law_476 rfl ?_
    refine g_istore11 (q := 479) C dL_law_477 (by first | rfl | exact hNw_rf _) rfl ?_
    refine g_iload (q := 481) C dL_law_479 rfl rfl ?_
    refine g_aload_n (q := 482) C dL_law_481 rfl (by first | exact hRef_r _ | exact hRef_o _ | exact hRef_n) rfl ?_
    refine g_iload (q := 484) C dL_law_482 rfl rfl ?_
    refine g_iconst (q := 485) (3) C dL_law_484 (by decide) rfl ?_
    refine g_callV2P (q := 488) C hy_X4_about (c_X4_about_n Γ l (nI h) 3 hL hI.inv (by rw [a3])) qw_381 (by exact hLq.1) rfl ⟨Nat.le_of_ble_eq_true rfl, Nat.le_of_ble_eq_true rfl⟩ (Nat.le_of_ble_eq_true rfl) rfl dL_law_485 ⟨rfl, rfl⟩ ⟨by show _ ≤ 893913; omega, by show _ ≤ 6419885; omega⟩ rfl ?_
    refine g_iadd (q := 489) C dL_law_488 rfl ?_
    refine g_istore12 (q := 491) C dL_law_489 (by first | rfl | exact hNw_rf _) rfl ?_
    refine g_aload_n (q := 492) C dL_law_491 rfl (by first | exact hRef_r _ | exact hRef_o _ | exact hRef_n) rfl ?_
    refine g_iload (q := 494) C dL_law_492 rfl rfl ?_
    refine g_iconst (q := 495) (2) C dL_law_494 (by decide) rfl ?_
    refine g_callV2P (q := 498) C hy_X4_about (c_X4_about_n Γ l (nI h) 2 hL hI.inv (by rw [a2])) qw_381 (by exact hLq.1) rfl ⟨Nat.le_of_ble_eq_true rfl, Nat.le_of_ble_eq_true rfl⟩ (Nat.le_of_ble_eq_true rfl) rfl dL_law_495 ⟨rfl, rfl⟩ ⟨by show _ ≤ 893913; omega, by show _ ≤ 6419885; omega⟩ rfl ?_
    refine g_aload_n (q := 499) C dL_law_498 rfl (by first | exact hRef_r _ | exact hRef_o _ | exact hRef_n) rfl ?_
    refine g_iload (q := 501) C dL_law_499 rfl rfl ?_
    refine g_iconst (q := 502) (3) C dL_law_501 (by decide) rfl ?_
    refine g_callV2P (q := 505) C hy_X4_about (c_X4_about_n Γ l (nI h) 3 hL hI.inv (by rw [a3])) qw_381 (by exact hLq.1) rfl ⟨Nat.le_of_ble_eq_true rfl, Nat.le_of_ble_eq_true rfl⟩ (Nat.le_of_ble_eq_true rfl) rfl dL_law_502 ⟨rfl, rfl⟩ ⟨by show _ ≤ 893913; omega, by show _ ≤ 6419885; omega⟩ rfl ?_
    refine g_icmp_ne (t := 512) (q := 508) C dL_law_505 (by decide) rfl (fun c_505 => ?_) (fun c_505 => ?_)
    · skip
      refine g_iconst (q := 513) (0) C dL_law_512 (by decide) rfl ?_
      refine g_aload_n (q := 514) C dL_law_513 rfl (by first | exact hRef_r _ | exact hRef_o _ | exact hRef_n) rfl ?_
      refine g_iload (q := 516) C dL_law_514 rfl rfl ?_
      refine g_iconst (q := 517) (4) C dL_law_516 (by decide) rfl ?_
      refine g_callV2P (q := 520) C hy_X4_about (c_X4_about_n Γ l (nI h) 4 hL hI.inv (by rw [a4])) qw_381 (by exact hLq.1) rfl ⟨Nat.le_of_ble_eq_true rfl, Nat.le_of_ble_eq_true rfl⟩ (Nat.le_of_ble_eq_true rfl) rfl dL_law_517 ⟨rfl, rfl⟩ ⟨by show _ ≤ 893913; omega, by show _ ≤ 6419885; omega⟩ rfl ?_
      refine g_if_ge (t := 527) (q := 523) C dL_law_520 (by decide) rfl (fun c_520 => ?_) (fun c_520 => ?_)
      · skip
        refine g_iconst (q := 528) (0) C dL_law_527 (by decide) rfl ?_
        refine g_icmp_eq (t := 533) (q := 531) C dL_law_528 (by decide) rfl (fun c_528 => ?_) (fun c_528 => ?_)
        · skip
          refine g_iinc13 (q := 536) (1) C dL_law_533 (by decide) (by first | rfl | exact hNw_rf _) rfl ?_
          refine g_goto (t := 457) C dL_law_536 (by decide) ?_
          rw [nI_1]
          exact ih hlth _ _ (by rw [h11, b2]; exact (sum_s _ _).symm) (by rw [h12, b3]; exact (sum_s _ _).symm)
        · skip
          first | exact absurd rfl c_528 | (exfalso; rw [b2, b3] at c_505; rw [b4] at c_520; have z := abLst (c := h) hI; first | exact absurd (z.mpr (Int32.not_le.mp c_520)) c_505 | exact absurd (z.mp c_505) (Int32.not_lt.mpr c_520))
      · skip
        refine g_iconst (q := 524) (1) C dL_law_523 (by decide) rfl ?_
        refine g_goto (t := 528) C dL_law_524 (by decide) ?_
        refine g_icmp_eq (t := 533) (q := 531) C dL_law_528 (by decide) rfl (fun c_528 => ?_) (fun c_528 => ?_)
        · skip
          refine g_iinc13 (q := 536) (1) C dL_law_533 (by decide) (by first | rfl | exact hNw_rf _) rfl ?_
          refine g_goto (t := 457) C dL_law_536 (by decide) ?_
          rw [nI_1]
          exact ih hlth _ _ (by rw [h11, b2]; exact (sum_s _ _).symm) (by rw [h12, b3]; exact (sum_s _ _).symm)
        · skip
          first | exact absurd rfl c_528 | (exfalso; rw [b2, b3] at c_505; rw [b4] at c_520; have z := abLst (c := h) hI; first | exact absurd (z.mpr (Int32.not_le.mp c_520)) c_505 | exact absurd (z.mp c_505) (Int32.not_lt.mpr c_520))
    · skip
      refine g_iconst (q := 509) (1) C dL_law_508 (by decide) rfl ?_
      refine g_goto (t := 513) C dL_law_509 (by decide) ?_
      refine g_aload_n (q := 514) C dL_law_513 rfl (by first | exact hRef_r _ | exact hRef_o _ | exact hRef_n) rfl ?_
      refine g_iload (q := 516) C dL_law_514 rfl rfl ?_
      refine g_iconst (q := 517) (4) C dL_law_516 (by decide) rfl ?_
      refine g_callV2P (q := 520) C hy_X4_about (c_X4_about_n Γ l (nI h) 4 hL hI.inv (by rw [a4])) qw_381 (by exact hLq.1) rfl ⟨Nat.le_of_ble_eq_true rfl, Nat.le_of_ble_eq_true rfl⟩ (Nat.le_of_ble_eq_true rfl) rfl dL_law_517 ⟨rfl, rfl⟩ ⟨by show _ ≤ 893913; omega, by show _ ≤ 6419885; omega⟩ rfl ?_
      refine g_if_ge (t := 527) (q := 523) C dL_law_520 (by decide) rfl (fun c_520 => ?_) (fun c_520 => ?_)
      · skip
        refine g_iconst (q := 528) (0) C dL_law_527 (by decide) rfl ?_
        refine g_icmp_eq (t := 533) (q := 531) C dL_law_528 (by decide) rfl (fun c_528 => ?_) (fun c_528 => ?_)
        · skip
          refine g_iinc13 (q := 536) (1) C dL_law_533 (by decide) (by first | rfl | exact hNw_rf _) rfl ?_
          refine g_goto (t := 457) C dL_law_536 (by decide) ?_
          rw [nI_1]
          exact ih hlth _ _ (by rw [h11, b2]; exact (sum_s _ _).symm) (by rw [h12, b3]; exact (sum_s _ _).symm)
        · skip
          first | exact absurd rfl c_528 | (exfalso; rw [b2, b3] at c_505; rw [b4] at c_520; have z := abLst (c := h) hI; first | exact absurd (z.mpr (Int32.not_le.mp c_520)) c_505 | exact absurd (z.mp c_505) (Int32.not_lt.mpr c_520))
      · skip
        refine g_iconst (q := 524) (1) C dL_law_523 (by decide) rfl ?_
        refine g_goto (t := 528) C dL_law_524 (by decide) ?_
        refine g_icmp_eq (t := 533) (q := 531) C dL_law_528 (by decide) rfl (fun c_528 => ?_) (fun c_528 => ?_)
        · skip
          refine g_iinc13 (q := 536) (1) C dL_law_533 (by decide) (by first | rfl | exact hNw_rf _) rfl ?_
          refine g_goto (t := 457) C dL_law_536 (by decide) ?_
          rw [nI_1]
          exact ih hlth _ _ (by rw [h11, b2]; exact (sum_s _ _).symm) (by rw [h12, b3]; exact (sum_s _ _).symm)
        · skip
          first | exact absurd rfl c_528 | (exfalso; rw [b2, b3] at c_505; rw [b4] at c_520; have z := abLst (c := h) hI; first | exact absurd (z.mpr (Int32.not_le.mp c_520)) c_505 | exact absurd (z.mp c_505) (Int32.not_lt.mpr c_520))
