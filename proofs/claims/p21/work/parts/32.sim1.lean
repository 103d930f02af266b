set_option maxRecDepth 100000 in
set_option maxHeartbeats 4000000 in
theorem c_X5_wet (Γ : hGam) (l : Launch) {M : hM} {a n : Nat} {w : Bool} {f : Nat → Int32} (h0 : M a = some (w, aI Γ n f)) (hn : 3 ≤ n) (hn2 : n < 1000) : hMet Γ l yX5_wet cX5_wet 1 (some .int) rm_X5_wet [.ref a] M (hpP M ((f 1 + f 2) / 2)) := by
  refine hMet_of (by decide +kernel) (Nat.le_of_ble_eq_true rfl) (hCat_cons rfl hCat_nil) (fun k9 C => ?_)
  show hG _ _ _ _ _ _ _ _ [some (.ref a)] _
  refine g_aload_n (q := 1) C dX5_wet_0 rfl (by first | exact hRef_r _ | exact hRef_o _ | exact hRef_n) rfl ?_
  refine g_iconst (q := 2) (1) C dX5_wet_1 (by decide) rfl ?_
  refine g_iald (q := 3) C 1 rfl (by omega) (by omega) dX5_wet_2 (h0) rfl ?_
  refine g_aload_n (q := 4) C dX5_wet_3 rfl (by first | exact hRef_r _ | exact hRef_o _ | exact hRef_n) rfl ?_
  refine g_iconst (q := 5) (2) C dX5_wet_4 (by decide) rfl ?_
  refine g_iald (q := 6) C 2 rfl (by omega) (by omega) dX5_wet_5 (h0) rfl ?_
  refine g_iadd (q := 7) C dX5_wet_6 rfl ?_
  refine g_iconst (q := 8) (2) C dX5_wet_7 (by decide) rfl ?_
  refine g_idiv (q := 9) C dX5_wet_8 (by decide) rfl ?_
  exact g_iret C dX5_wet_9 (⟨rfl, rfl⟩) (Nat.zero_le _) (Nat.zero_le _)
set_option maxRecDepth 100000 in
set_option maxHeartbeats 4000000 in
theorem c_X5_near (Γ : hGam) (l : Launch) {M : hM} {x : Nat} {S : hS} {t c w : Nat} (hS : smP Γ M x S) (ht : t < 5) (hc : c < 8) (hw : w ≤ 2) (hown : w = 1 → bTak (sB S (t * 8 + c)) = true) : hMet Γ l yX5_near cX5_near 6 (some .int) rm_X5_near [.ref x, .int (nI t), .int (nI c), .int (nI w)] M (hpP M (nrS w (sB S) (t * 8 + c) 2)) := by
  obtain ⟨ha, oa, la, ob, rx, bd, hQ⟩ := hS
  obtain ⟨pX, pH, pO, pL, pB⟩ := id hQ
  obtain ⟨lf, pLf, pRow⟩ := pL.row
  have own : w = 1 → (bd (t * 8 + c)).isSome = true := fun q => by rw [← pB.tak (show t * 8 + c < 40 by omega)]; exact hown q
  refine hMet_of (by decide +kernel) (Nat.le_of_ble_eq_true rfl) (hCat_cons rfl (hCat_cons rfl (hCat_cons rfl (hCat_cons rfl hCat_nil)))) (fun k9 C => ?_)
  show hG _ _ _ _ _ _ _ _ [some (.ref x), some (.int (nI t)), some (.int (nI c)), some (.int (nI w)), none, none] _
  refine g_iconst (q := 1) (0) C dX5_near_0 (by decide) rfl ?_
  refine g_istore4 (q := 3) C dX5_near_1 (by first | rfl | exact hNw_rf _) rfl ?_
  refine g_iload_n (q := 4) C dX5_near_3 rfl rfl ?_
  refine g_iconst (q := 5) (1) C dX5_near_4 (by decide) rfl ?_
  refine g_isub (q := 6) C dX5_near_5 rfl ?_
  refine g_istore5 (q := 8) C dX5_near_6 (by first | rfl | exact hNw_rf _) rfl ?_
  refine h_loopU (P := fun j => ∀ acc : Int32, acc = nrS w (sB S) (t * 8 + c) j → hG Γ k9 _ _ M 0 0 8 [some (.ref x), some (.int (nI t)), some (.int (nI c)), some (.int (nI w)), some (.int acc), some (.int (oV c j))] []) (N := 2) (fun j hj ih => ?_) 0 (Nat.zero_le _) _ rfl
  intro acc hacc
  refine g_iload (q := 10) C dX5_near_8 rfl rfl ?_
  refine g_iload_n (q := 11) C dX5_near_10 rfl rfl ?_
  refine g_iconst (q := 12) (1) C dX5_near_11 (by decide) rfl ?_
  refine g_iadd (q := 13) C dX5_near_12 rfl ?_
  refine g_icmp_gt (t := 114) (q := 16) C dX5_near_13 (by decide) rfl (fun c_13 => ?_) (fun c_13 => ?_)
  · skip
    have hN := oV_end hc hj c_13
    subst hN
    refine g_iload (q := 116) C dX5_near_114 rfl rfl ?_
    exact g_iret C dX5_near_116 (⟨hacc, rfl⟩) (Nat.zero_le _) (Nat.zero_le _)
  · skip
    have hlt := oV_go hc hj c_13
    refine g_iload (q := 18) C dX5_near_16 rfl rfl ?_
    refine g_if_lt (t := 108) (q := 21) C dX5_near_18 (by decide) rfl (fun c_18 => ?_) (fun c_18 => ?_)
    · skip
      have hq : nrQ w (sB S) (t * 8 + c) j = false := by
        unfold nrQ; rw [oV_lo (t := t) hc hlt c_18]
      refine g_iinc5 (q := 111) (2) C dX5_near_108 (by decide) (by first | rfl | exact hNw_rf _) rfl ?_
      refine g_goto (t := 8) C dX5_near_111 (by decide) ?_
      rw [oV_s hc hlt]
      refine ih hlt _ ?_
      rw [show nrS w (sB S) (t * 8 + c) (j + 1) = nrS w (sB S) (t * 8 + c) j + bI (nrQ w (sB S) (t * 8 + c) j) from rfl, hq, bI_f, Int32.add_zero]
      exact hacc
    · skip
      refine g_iload (q := 23) C dX5_near_21 rfl rfl ?_
      refine g_bipush (q := 25) (7) C dX5_near_23 (by decide) rfl ?_
      refine g_icmp_gt (t := 108) (q := 28) C dX5_near_25 (by decide) rfl (fun c_25 => ?_) (fun c_25 => ?_)
      · skip
        have hq : nrQ w (sB S) (t * 8 + c) j = false := by
          unfold nrQ; rw [oV_hi (t := t) hc hlt c_25]
        refine g_iinc5 (q := 111) (2) C dX5_near_108 (by decide) (by first | rfl | exact hNw_rf _) rfl ?_
        refine g_goto (t := 8) C dX5_near_111 (by decide) ?_
        rw [oV_s hc hlt]
        refine ih hlt _ ?_
        rw [show nrS w (sB S) (t * 8 + c) (j + 1) = nrS w (sB S) (t * 8 + c) j + bI (nrQ w (sB S) (t * 8 + c) j) from rfl, hq, bI_f, Int32.add_zero]
        exact hacc
      · skip
        obtain ⟨c2, hc2, ho2, hnx⟩ := oV_in (t := t) hc hlt c_18 c_25
        obtain ⟨hr1, rf, hr2, hr3⟩ := pRow t ht
        refine g_aload_n (q := 29) C dX5_near_28 rfl (by first | exact hRef_r _ | exact hRef_o _ | exact hRef_n) rfl ?_
        refine g_get (q := 32) C hcl_X5 5 (by decide) qw_644 rfl dX5_near_29 (by exact pX) rfl rfl ?_
        refine g_iload_n (q := 33) C dX5_near_32 rfl rfl ?_
        refine g_aaldRR (q := 34) C t rfl ht (by decide) dX5_near_33 (pLf) hr1 rfl ?_
        refine g_iload (q := 36) C dX5_near_34 rfl rfl ?_
        refine g_aaldR (q := 37) C c2 ho2 hc2 (by omega) dX5_near_36 (hr2) rfl rfl ?_
        refine g_ifnonnull (t := 43) (q := 40) C dX5_near_37 (by decide) rfl (fun y_37 e_37 => ?_) (fun e_37 => ?_)
        · skip
          obtain ⟨j2, f2, tk2, hm2, q0, q1, q2, q3, q4⟩ := pB.of (show t * 8 + c2 < 40 by omega) ((hr3 c2 hc2).symm.trans e_37)
          refine g_iload (q := 45) C dX5_near_43 rfl rfl ?_
          refine g_iload_n (q := 46) C dX5_near_45 rfl rfl ?_
          refine g_if_eq (t := 100) (q := 49) C dX5_near_46 (by decide) rfl (fun c_46 => ?_) (fun c_46 => ?_)
          · skip
            have w0 : w = 0 := (nI_eq (a := w) (b := 0) (by omega) (by decide)).mp c_46
            have hq : nrQ w (sB S) (t * 8 + c) j = true := by
              unfold nrQ
              rw [hnx]
              show (bTak (sB S (t * 8 + c2)) && nT w (sB S (t * 8 + c)) (sB S (t * 8 + c2))) = true
              rw [show bTak (sB S (t * 8 + c2)) = true by show (sB S (t * 8 + c2)).1.isSome = true; rw [tk2]; rfl, Bool.true_and]
              unfold nT
              subst w0
              rfl
            refine g_iconst (q := 101) (1) C dX5_near_100 (by decide) rfl ?_
            refine g_goto (t := 105) C dX5_near_101 (by decide) ?_
            refine g_iadd (q := 106) C dX5_near_105 rfl ?_
            refine g_istore4 (q := 108) C dX5_near_106 (by first | rfl | exact hNw_rf _) rfl ?_
            refine g_iinc5 (q := 111) (2) C dX5_near_108 (by decide) (by first | rfl | exact hNw_rf _) rfl ?_
            refine g_goto (t := 8) C dX5_near_111 (by decide) ?_
            rw [oV_s hc hlt]
            refine ih hlt _ ?_
            rw [show nrS w (sB S) (t * 8 + c) (j + 1) = nrS w (sB S) (t * 8 + c) j + bI (nrQ w (sB S) (t * 8 + c) j) from rfl, hq, ← hacc]
            rfl
          · skip
            have w0 : w ≠ 0 := fun q => c_46 (by rw [q]; rfl)
            refine g_iload_n (q := 50) C dX5_near_49 rfl rfl ?_
            refine g_iconst (q := 51) (1) C dX5_near_50 (by decide) rfl ?_
            refine g_icmp_ne (t := 80) (q := 54) C dX5_near_51 (by decide) rfl (fun c_51 => ?_) (fun c_51 => ?_)
            · skip
              have w1 : w ≠ 1 := fun q => c_51 (by rw [q]; rfl)
              refine g_iload_n (q := 81) C dX5_near_80 rfl rfl ?_
              refine g_iconst (q := 82) (2) C dX5_near_81 (by decide) rfl ?_
              refine g_icmp_ne (t := 104) (q := 85) C dX5_near_82 (by decide) rfl (fun c_82 => ?_) (fun c_82 => ?_)
              · skip
                have w2 : w ≠ 2 := fun q => c_82 (by rw [q]; rfl)
                have hq : nrQ w (sB S) (t * 8 + c) j = false := by
                  unfold nrQ
                  rw [hnx]
                  show (bTak (sB S (t * 8 + c2)) && nT w (sB S (t * 8 + c)) (sB S (t * 8 + c2))) = false
                  rw [show bTak (sB S (t * 8 + c2)) = true by show (sB S (t * 8 + c2)).1.isSome = true; rw [tk2]; rfl, Bool.true_and]
                  unfold nT
                  first | (simp [w0, w1, w2]; done) | (simp [w0, w1, w2, nw]; done)
                refine g_iconst (q := 105) (0) C dX5_near_104 (by decide) rfl ?_
                refine g_iadd (q := 106) C dX5_near_105 rfl ?_
                refine g_istore4 (q := 108) C dX5_near_106 (by first | rfl | exact hNw_rf _) rfl ?_
                refine g_iinc5 (q := 111) (2) C dX5_near_108 (by decide) (by first | rfl | exact hNw_rf _) rfl ?_
                refine g_goto (t := 8) C dX5_near_111 (by decide) ?_
                rw [oV_s hc hlt]
                refine ih hlt _ ?_
                rw [show nrS w (sB S) (t * 8 + c) (j + 1) = nrS w (sB S) (t * 8 + c) j + bI (nrQ w (sB S) (t * 8 + c) j) from rfl, hq, ← hacc]
                rfl
              · skip
                have w2 : w = 2 := (nI_eq (a := w) (b := 2) (by omega) (by decide)).mp c_82
                refine g_aload_n (q := 86) C dX5_near_85 rfl (by first | exact hRef_r _ | exact hRef_o _ | exact hRef_n) rfl ?_
                refine g_get (q := 89) C hcl_X5 5 (by decide) qw_644 rfl dX5_near_86 (by exact pX) rfl rfl ?_
                refine g_iload_n (q := 90) C dX5_near_89 rfl rfl ?_
                refine g_aaldRR (q := 91) C t rfl ht (by decide) dX5_near_90 (pLf) hr1 rfl ?_
                refine g_iload (q := 93) C dX5_near_91 rfl rfl ?_
                refine g_aaldR (q := 94) C c2 ho2 hc2 (by omega) dX5_near_93 (hr2) (congrArg va_rf e_37) rfl ?_
                refine g_iconst (q := 95) (4) C dX5_near_94 (by decide) rfl ?_
                refine g_iald (q := 96) C 4 rfl (by omega) (by omega) dX5_near_95 (hm2) rfl ?_
                refine g_iconst (q := 97) (2) C dX5_near_96 (by decide) rfl ?_
                refine g_icmp_le (t := 104) (q := 100) C dX5_near_97 (by decide) rfl (fun c_97 => ?_) (fun c_97 => ?_)
                · skip
                  have hq : nrQ w (sB S) (t * 8 + c) j = false := by
                    unfold nrQ
                    rw [hnx]
                    show (bTak (sB S (t * 8 + c2)) && nT w (sB S (t * 8 + c)) (sB S (t * 8 + c2))) = false
                    rw [show bTak (sB S (t * 8 + c2)) = true by show (sB S (t * 8 + c2)).1.isSome = true; rw [tk2]; rfl, Bool.true_and]
                    unfold nT
                    have : ¬ 2 < (sB S (t * 8 + c2)).2.2.2.2 := by rw [← q4]; exact Int32.not_lt.mpr c_97
                    simp [w2, this]
                  refine g_iconst (q := 105) (0) C dX5_near_104 (by decide) rfl ?_
                  refine g_iadd (q := 106) C dX5_near_105 rfl ?_
                  refine g_istore4 (q := 108) C dX5_near_106 (by first | rfl | exact hNw_rf _) rfl ?_
                  refine g_iinc5 (q := 111) (2) C dX5_near_108 (by decide) (by first | rfl | exact hNw_rf _) rfl ?_
                  refine g_goto (t := 8) C dX5_near_111 (by decide) ?_
                  rw [oV_s hc hlt]
                  refine ih hlt _ ?_
                  rw [show nrS w (sB S) (t * 8 + c) (j + 1) = nrS w (sB S) (t * 8 + c) j + bI (nrQ w (sB S) (t * 8 + c) j) from rfl, hq, ← hacc]
                  rfl
                · skip
                  have hq : nrQ w (sB S) (t * 8 + c) j = true := by
                    unfold nrQ
                    rw [hnx]
                    show (bTak (sB S (t * 8 + c2)) && nT w (sB S (t * 8 + c)) (sB S (t * 8 + c2))) = true
                    rw [show bTak (sB S (t * 8 + c2)) = true by show (sB S (t * 8 + c2)).1.isSome = true; rw [tk2]; rfl, Bool.true_and]
                    unfold nT
                    have : 2 < (sB S (t * 8 + c2)).2.2.2.2 := by rw [← q4]; exact Int32.not_le.mp c_97
                    simp [w2, this]
                  refine g_iconst (q := 101) (1) C dX5_near_100 (by decide) rfl ?_
                  refine g_goto (t := 105) C dX5_near_101 (by decide) ?_
                  refine g_iadd (q := 106) C dX5_near_105 rfl ?_
                  refine g_istore4 (q := 108) C dX5_near_106 (by first | rfl | exact hNw_rf _) rfl ?_
                  refine g_iinc5 (q := 111) (2) C dX5_near_108 (by decide) (by first | rfl | exact hNw_rf _) rfl ?_
                  refine g_goto (t := 8) C dX5_near_111 (by decide) ?_
                  rw [oV_s hc hlt]
                  refine ih hlt _ ?_
                  rw [show nrS w (sB S) (t * 8 + c) (j + 1) = nrS w (sB S) (t * 8 + c) j + bI (nrQ w (sB S) (t * 8 + c) j) from rfl, hq, ← hacc]
                  rfl
            · skip
              have w1 : w = 1 := (nI_eq (a := w) (b := 1) (by omega) (by decide)).mp c_51
              obtain ⟨a9, e9⟩ := Option.isSome_iff_exists.mp (own w1)
              obtain ⟨j9, f9, tk9, hm9, z0, z1, z2, z3, z4⟩ := pB.of (show t * 8 + c < 40 by omega) e9
              refine g_aload_n (q := 55) C dX5_near_54 rfl (by first | exact hRef_r _ | exact hRef_o _ | exact hRef_n) rfl ?_
              refine g_get (q := 58) C hcl_X5 5 (by decide) qw_644 rfl dX5_near_55 (by exact pX) rfl rfl ?_
              refine g_iload_n (q := 59) C dX5_near_58 rfl rfl ?_
              refine g_aaldRR (q := 60) C t rfl ht (by decide) dX5_near_59 (pLf) hr1 rfl ?_
              refine g_iload (q := 62) C dX5_near_60 rfl rfl ?_
              refine g_aaldR (q := 63) C c2 ho2 hc2 (by omega) dX5_near_62 (hr2) (congrArg va_rf e_37) rfl ?_
              refine g_callS1P (q := 66) C hy_X5_wet (c_X5_wet Γ l hm2 (by decide) (by decide)) qw_473 ⟨Nat.le_of_ble_eq_true rfl, Nat.le_of_ble_eq_true rfl⟩ (Nat.le_of_ble_eq_true rfl) rfl dX5_near_63 ⟨rfl, rfl⟩ ⟨Nat.zero_le _, Nat.zero_le _⟩ rfl ?_
              refine g_aload_n (q := 67) C dX5_near_66 rfl (by first | exact hRef_r _ | exact hRef_o _ | exact hRef_n) rfl ?_
              refine g_get (q := 70) C hcl_X5 5 (by decide) qw_644 rfl dX5_near_67 (by exact pX) rfl rfl ?_
              refine g_iload_n (q := 71) C dX5_near_70 rfl rfl ?_
              refine g_aaldRR (q := 72) C t rfl ht (by decide) dX5_near_71 (pLf) hr1 rfl ?_
              refine g_iload_n (q := 73) C dX5_near_72 rfl rfl ?_
              refine g_aaldR (q := 74) C c rfl hc (by omega) dX5_near_73 (hr2) (congrArg va_rf ((hr3 c hc).trans e9)) rfl ?_
              refine g_callS1P (q := 77) C hy_X5_wet (c_X5_wet Γ l hm9 (by decide) (by decide)) qw_473 ⟨Nat.le_of_ble_eq_true rfl, Nat.le_of_ble_eq_true rfl⟩ (Nat.le_of_ble_eq_true rfl) rfl dX5_near_74 ⟨rfl, rfl⟩ ⟨Nat.zero_le _, Nat.zero_le _⟩ rfl ?_
              refine g_icmp_gt (t := 100) (q := 80) C dX5_near_77 (by decide) rfl (fun c_77 => ?_) (fun c_77 => ?_)
              · skip
                have hq : nrQ w (sB S) (t * 8 + c) j = true := by
                  unfold nrQ
                  rw [hnx]
                  show (bTak (sB S (t * 8 + c2)) && nT w (sB S (t * 8 + c)) (sB S (t * 8 + c2))) = true
                  rw [show bTak (sB S (t * 8 + c2)) = true by show (sB S (t * 8 + c2)).1.isSome = true; rw [tk2]; rfl, Bool.true_and]
                  unfold nT
                  subst w1
                  have : bWet (sB S (t * 8 + c)) < bWet (sB S (t * 8 + c2)) := by unfold bWet; rw [← q1, ← q2, ← z1, ← z2]; exact c_77
                  simp [this]
                refine g_iconst (q := 101) (1) C dX5_near_100 (by decide) rfl ?_
                refine g_goto (t := 105) C dX5_near_101 (by decide) ?_
                refine g_iadd (q := 106) C dX5_near_105 rfl ?_
                refine g_istore4 (q := 108) C dX5_near_106 (by first | rfl | exact hNw_rf _) rfl ?_
                refine g_iinc5 (q := 111) (2) C dX5_near_108 (by decide) (by first | rfl | exact hNw_rf _) rfl ?_
                refine g_goto (t := 8) C dX5_near_111 (by decide) ?_
                rw [oV_s hc hlt]
                refine ih hlt _ ?_
                rw [show nrS w (sB S) (t * 8 + c) (j + 1) = nrS w (sB S) (t * 8 + c) j + bI (nrQ w (sB S) (t * 8 + c) j) from rfl, hq, ← hacc]
                rfl
              · skip
                have nw : ¬ bWet (sB S (t * 8 + c)) < bWet (sB S (t * 8 + c2)) := by unfold bWet; rw [← q1, ← q2, ← z1, ← z2]; exact fun z => c_77 z
                refine g_iload_n (q := 81) C dX5_near_80 rfl rfl ?_
                refine g_iconst (q := 82) (2) C dX5_near_81 (by decide) rfl ?_
                refine g_icmp_ne (t := 104) (q := 85) C dX5_near_82 (by decide) rfl (fun c_82 => ?_) (fun c_82 => ?_)
                · skip
                  have w2 : w ≠ 2 := fun q => c_82 (by rw [q]; rfl)
                  have hq : nrQ w (sB S) (t * 8 + c) j = false := by
                    unfold nrQ
                    rw [hnx]
                    show (bTak (sB S (t * 8 + c2)) && nT w (sB S (t * 8 + c)) (sB S (t * 8 + c2))) = false
                    rw [show bTak (sB S (t * 8 + c2)) = true by show (sB S (t * 8 + c2)).1.isSome = true; rw [tk2]; rfl, Bool.true_and]
                    unfold nT
                    first | (simp [w0, w1, w2]; done) | (simp [w0, w1, w2, nw]; done)
                  refine g_iconst (q := 105) (0) C dX5_near_104 (by decide) rfl ?_
                  refine g_iadd (q := 106) C dX5_near_105 rfl ?_
                  refine g_istore4 (q := 108) C dX5_near_106 (by first | rfl | exact hNw_rf _) rfl ?_
                  refine g_iinc5 (q := 111) (2) C dX5_near_108 (by decide) (by first | rfl | exact hNw_rf _) rfl ?_
                  refine g_goto (t := 8) C dX5_near_111 (by decide) ?_
                  rw [oV_s hc hlt]
                  refine ih hlt _ ?_
                  rw [show nrS w (sB S) (t * 8 + c) (j + 1) = nrS w (sB S) (t * 8 + c) j + bI (nrQ w (sB S) (t * 8 + c) j) from rfl, hq, ← hacc]
                  rfl
                · skip
                  have w2 : w = 2 := (nI_eq (a := w) (b := 2) (by omega) (by decide)).mp c_82
                  refine g_aload_n (q := 86) C dX5_near_85 rfl (by first | exact hRef_r _ | exact hRef_o _ | exact hRef_n) rfl ?_
                  refine g_get (q := 89) C hcl_X5 5 (by decide) qw_644 rfl dX5_near_86 (by exact pX) rfl rfl ?_
                  refine g_iload_n (q := 90) C dX5_near_89 rfl rfl ?_
                  refine g_aaldRR (q := 91) C t rfl ht (by decide) dX5_near_90 (pLf) hr1 rfl ?_
                  refine g_iload (q := 93) C dX5_near_91 rfl rfl ?_
                  refine g_aaldR (q := 94) C c2 ho2 hc2 (by omega) dX5_near_93 (hr2) (congrArg va_rf e_37) rfl ?_
                  refine g_iconst (q := 95) (4) C dX5_near_94 (by decide) rfl ?_
                  refine g_iald (q := 96) C 4 rfl (by omega) (by omega) dX5_near_95 (hm2) rfl ?_
                  refine g_iconst (q := 97) (2) C dX5_near_96 (by decide) rfl ?_
                  refine g_icmp_le (t := 104) (q := 100) C dX5_near_97 (by decide) rfl (fun c_97 => ?_) (fun c_97 => ?_)
                  · skip
                    have hq : nrQ w (sB S) (t * 8 + c) j = false := by
                      unfold nrQ
                      rw [hnx]
                      show (bTak (sB S (t * 8 + c2)) && nT w (sB S (t * 8 + c)) (sB S (t * 8 + c2))) = false
                      rw [show bTak (sB S (t * 8 + c2)) = true by show (sB S (t * 8 + c2)).1.isSome = true; rw [tk2]; rfl, Bool.true_and]
                      unfold nT
                      have : ¬ 2 < (sB S (t * 8 + c2)).2.2.2.2 := by rw [← q4]; exact Int32.not_lt.mpr c_97
                      simp [w2, this]
                    refine g_iconst (q := 105) (0) C dX5_near_104 (by decide) rfl ?_
                    refine g_iadd (q := 106) C dX5_near_105 rfl ?_
                    refine g_istore4 (q := 108) C dX5_near_106 (by first | rfl | exact hNw_rf _) rfl ?_
                    refine g_iinc5 (q := 111) (2) C dX5_near_108 (by decide) (by first | rfl | exact hNw_rf _) rfl ?_
                    refine g_goto (t := 8) C dX5_near_111 (by decide) ?_
                    rw [oV_s hc hlt]
                    refine ih hlt _ ?_
                    rw [show nrS w (sB S) (t * 8 + c) (j + 1) = nrS w (sB S) (t * 8 + c) j + bI (nrQ w (sB S) (t * 8 + c) j) from rfl, hq, ← hacc]
                    rfl
                  · skip
                    have hq : nrQ w (sB S) (t * 8 + c) j = true := by
                      unfold nrQ
                      rw [hnx]
                      show (bTak (sB S (t * 8 + c2)) && nT w (sB S (t * 8 + c)) (sB S (t * 8 + c2))) = true
                      rw [show bTak (sB S (t * 8 + c2)) = true by show (sB S (t * 8 + c2)).1.isSome = true; rw [tk2]; rfl, Bool.true_and]
                      unfold nT
                      have : 2 < (sB S (t * 8 + c2)).2.2.2.2 := by rw [← q4]; exact Int32.not_le.mp c_97
                      simp [w2, this]
                    refine g_iconst (q := 101) (1) C dX5_near_100 (by decide) rfl ?_
                    refine g_goto (t := 105) C dX5_near_101 (by decide) ?_
                    refine g_iadd (q := 106) C dX5_near_105 rfl ?_
                    refine g_istore4 (q := 108) C dX5_near_106 (by first | rfl | exact hNw_rf _) rfl ?_
                    refine g_iinc5 (q := 111) (2) C dX5_near_108 (by decide) (by first | rfl | exact hNw_rf _) rfl ?_
                    refine g_goto (t := 8) C dX5_near_111 (by decide) ?_
                    rw [oV_s hc hlt]
                    refine ih hlt _ ?_
                    rw [show nrS w (sB S) (t * 8 + c) (j + 1) = nrS w (sB S) (t * 8 + c) j + bI (nrQ w (sB S) (t * 8 + c) j) from rfl, hq, ← hacc]
                    rfl
        · skip
          have hq : nrQ w (sB S) (t * 8 + c) j = false := by
            unfold nrQ
            rw [hnx]
            show (bTak (sB S (t * 8 + c2)) && nT w (sB S (t * 8 + c)) (sB S (t * 8 + c2))) = false
            rw [show bTak (sB S (t * 8 + c2)) = false by show (sB S (t * 8 + c2)).1.isSome = false; rw [pB.2.1 _ (by omega) ((hr3 c2 hc2).symm.trans e_37)]; rfl]
            rfl
          refine g_goto (t := 108) C dX5_near_40 (by decide) ?_
          refine g_iinc5 (q := 111) (2) C dX5_near_108 (by decide) (by first | rfl | exact hNw_rf _) rfl ?_
          refine g_goto (t := 8) C dX5_near_111 (by decide) ?_
          rw [oV_s hc hlt]
          refine ih hlt _ ?_
          rw [show nrS w (sB S) (t * 8 + c) (j + 1) = nrS w (sB S) (t * 8 + c) j + bI (nrQ w (sB S) (t * 8 + c) j) from rfl, hq, bI_f, Int32.add_zero]
          exact hacc
set_option maxRecDepth 100000 in
set_option maxHeartbeats 4000000 in
theorem c_X5_fits (Γ : hGam) (l : Launch) {M : hM} {x b : Nat} {o : Option Nat} {f g : Nat → Int32} (h1 : ∀ a, o = some a → M a = some (true, aI Γ 5 f)) (h2 : M b = some (true, aI Γ 4 g)) : hMet Γ l yX5_fits cX5_fits 3 (some .boolean) rm_X5_fits [.ref x, va_rf o, .ref b] M (hpP M (bI (o.isSome && (decide (f 0 = g 0) && (decide ((f 1 + f 2) / 2 ≤ g 2) && decide (f 4 = 0)))))) := by
  refine hMet_of (by decide +kernel) (Nat.le_of_ble_eq_true rfl) (hCat_cons rfl (hCat_cons (hRef_o _).cat (hCat_cons rfl hCat_nil))) (fun k9 C => ?_)
  show hG _ _ _ _ _ _ _ _ [some (.ref x), some (va_rf o), some (.ref b)] _
  refine g_aload_n (q := 1) C dX5_fits_0 rfl (by first | exact hRef_r _ | exact hRef_o _ | exact hRef_n) rfl ?_
  refine g_ifnull (t := 33) (q := 4) C dX5_fits_1 (by decide) rfl (fun e_1 => ?_) (fun y_1 e_1 => ?_)
  · subst e_1
    refine g_iconst (q := 34) (0) C dX5_fits_33 (by decide) rfl ?_
    exact g_zret C dX5_fits_34 (by first | rfl | exact hNarB _) (⟨by first | rfl | (simp [bI, *]; done) | (simp [bI, ← Int32.not_lt, *]; done) | (simp_all [bI]; done) | (simp_all [bI, ← Int32.not_lt]; done), rfl⟩) (Nat.zero_le _) (Nat.zero_le _)
  · subst e_1
    refine g_aload_n (q := 5) C dX5_fits_4 rfl (by first | exact hRef_r _ | exact hRef_o _ | exact hRef_n) rfl ?_
    refine g_iconst (q := 6) (0) C dX5_fits_5 (by decide) rfl ?_
    refine g_iald (q := 7) C 0 rfl (by omega) (by omega) dX5_fits_6 (h1 _ rfl) rfl ?_
    refine g_aload_n (q := 8) C dX5_fits_7 rfl (by first | exact hRef_r _ | exact hRef_o _ | exact hRef_n) rfl ?_
    refine g_iconst (q := 9) (0) C dX5_fits_8 (by decide) rfl ?_
    refine g_iald (q := 10) C 0 rfl (by omega) (by omega) dX5_fits_9 (h2) rfl ?_
    refine g_icmp_ne (t := 33) (q := 13) C dX5_fits_10 (by decide) rfl (fun c_10 => ?_) (fun c_10 => ?_)
    · skip
      refine g_iconst (q := 34) (0) C dX5_fits_33 (by decide) rfl ?_
      exact g_zret C dX5_fits_34 (by first | rfl | exact hNarB _) (⟨by first | rfl | (simp [bI, *]; done) | (simp [bI, ← Int32.not_lt, *]; done) | (simp_all [bI]; done) | (simp_all [bI, ← Int32.not_lt]; done), rfl⟩) (Nat.zero_le _) (Nat.zero_le _)
    · skip
      refine g_aload_n (q := 14) C dX5_fits_13 rfl (by first | exact hRef_r _ | exact hRef_o _ | exact hRef_n) rfl ?_
      refine g_callS1P (q := 17) C hy_X5_wet (c_X5_wet Γ l (h1 _ rfl) (by decide) (by decide)) qw_473 ⟨Nat.le_of_ble_eq_true rfl, Nat.le_of_ble_eq_true rfl⟩ (Nat.le_of_ble_eq_true rfl) rfl dX5_fits_14 ⟨rfl, rfl⟩ ⟨Nat.zero_le _, Nat.zero_le _⟩ rfl ?_
      refine g_aload_n (q := 18) C dX5_fits_17 rfl (by first | exact hRef_r _ | exact hRef_o _ | exact hRef_n) rfl ?_
      refine g_iconst (q := 19) (2) C dX5_fits_18 (by decide) rfl ?_
      refine g_iald (q := 20) C 2 rfl (by omega) (by omega) dX5_fits_19 (h2) rfl ?_
      refine g_icmp_gt (t := 33) (q := 23) C dX5_fits_20 (by decide) rfl (fun c_20 => ?_) (fun c_20 => ?_)
      · skip
        refine g_iconst (q := 34) (0) C dX5_fits_33 (by decide) rfl ?_
        exact g_zret C dX5_fits_34 (by first | rfl | exact hNarB _) (⟨by first | rfl | (simp [bI, *]; done) | (simp [bI, ← Int32.not_lt, *]; done) | (simp_all [bI]; done) | (simp_all [bI, ← Int32.not_lt]; done), rfl⟩) (Nat.zero_le _) (Nat.zero_le _)
      · skip
        refine g_aload_n (q := 24) C dX5_fits_23 rfl (by first | exact hRef_r _ | exact hRef_o _ | exact hRef_n) rfl ?_
        refine g_iconst (q := 25) (4) C dX5_fits_24 (by decide) rfl ?_
        refine g_iald (q := 26) C 4 rfl (by omega) (by omega) dX5_fits_25 (h1 _ rfl) rfl ?_
        refine g_if_ne (t := 33) (q := 29) C dX5_fits_26 (by decide) rfl (fun c_26 => ?_) (fun c_26 => ?_)
        · skip
          refine g_iconst (q := 34) (0) C dX5_fits_33 (by decide) rfl ?_
          exact g_zret C dX5_fits_34 (by first | rfl | exact hNarB _) (⟨by first | rfl | (simp [bI, *]; done) | (simp [bI, ← Int32.not_lt, *]; done) | (simp_all [bI]; done) | (simp_all [bI, ← Int32.not_lt]; done), rfl⟩) (Nat.zero_le _) (Nat.zero_le _)
        · skip
          refine g_iconst (q := 30) (1) C dX5_fits_29 (by decide) rfl ?_
          refine g_goto (t := 34) C dX5_fits_30 (by decide) ?_
          exact g_zret C dX5_fits_34 (by first | rfl | exact hNarB _) (⟨by first | rfl | (simp [bI, *]; done) | (simp [bI, ← Int32.not_lt, *]; done) | (simp_all [bI]; done) | (simp_all [bI, ← Int32.not_lt]; done), rfl⟩) (Nat.zero_le _) (Nat.zero_le _)
set_option maxRecDepth 100000 in
set_option maxHeartbeats 4000000 in
theorem c_X5_sums (Γ : hGam) (l : Launch) {M : hM} {x : Nat} {S : hS} (hS : smP Γ M x S) : hMet Γ l yX5_sums cX5_sums 10 (some (.array .int)) rm_X5_sums [.ref x] M (hpQ (fun o M1 => ∃ b f, o = some b ∧ M b = none ∧ M1 = hU M b (aI Γ 3 f) ∧ f 0 = hIt (fCnt (sB S)) 0 40 ∧ f 1 = hIt (fBad (sB S)) 0 40 ∧ f 2 = hIt (fSum (sB S)) 0 40)) := by
  obtain ⟨ha, oa, la, ob, rx, bd, hQ⟩ := hS
  obtain ⟨pX, pH, pO, pL, pB⟩ := id hQ
  obtain ⟨lf, pLf, pRow⟩ := pL.row
  refine hMet_of (by decide +kernel) (Nat.le_of_ble_eq_true rfl) (hCat_cons rfl hCat_nil) (fun k9 C => ?_)
  show hG _ _ _ _ _ _ _ _ [some (.ref x), none, none, none, none, none, none, none, none, none] _
  refine g_iconst (q := 1) (3) C dX5_sums_0 (by decide) rfl ?_
  refine g_newI (q := 3) C qw_476 (N := 3) rfl (by decide) (by decide) (by decide) dX5_sums_1 rfl (fun b eb => ?_)
  have hkn : ∀ {a : Nat} {w : Bool} {e : va_E}, M a = some (w, e) → ∀ g : Nat → Int32, hU M b (aI Γ 3 g) a = some (w, e) := fun {a w e} ha g => (hU_n (fun q => by rw [q, eb] at ha; cases ha)).trans ha
  refine g_astore1 (q := 4) C dX5_sums_3 (by first | exact hRef_r _ | exact hRef_o _ | exact hRef_n) (by first | rfl | exact hNw_rf _) rfl ?_
  refine g_aload_n (q := 5) C dX5_sums_4 rfl (by first | exact hRef_r _ | exact hRef_o _ | exact hRef_n) rfl ?_
  refine g_get (q := 8) C hcl_X5 5 (by decide) qw_644 rfl dX5_sums_5 (by exact hkn pX _) rfl rfl ?_
  refine g_astore2 (q := 9) C dX5_sums_8 (by first | exact hRef_r _ | exact hRef_o _ | exact hRef_n) (by first | rfl | exact hNw_rf _) rfl ?_
  refine g_aload_n (q := 10) C dX5_sums_9 rfl (by first | exact hRef_r _ | exact hRef_o _ | exact hRef_n) rfl ?_
  refine g_alenRR (q := 11) C dX5_sums_10 (hkn pLf _) rfl ?_
  refine g_istore3 (q := 12) C dX5_sums_11 (by first | rfl | exact hNw_rf _) rfl ?_
  refine g_iconst (q := 13) (0) C dX5_sums_12 (by decide) rfl ?_
  refine g_istore4 (q := 15) C dX5_sums_13 (by first | rfl | exact hNw_rf _) rfl ?_
  refine h_loopU (P := fun t => ∀ (f : Nat → Int32) (o5 o6 o7 o8 o9 : Option Value), f 0 = hIt (fCnt (sB S)) 0 (t * 8) → f 1 = hIt (fBad (sB S)) 0 (t * 8) → f 2 = hIt (fSum (sB S)) 0 (t * 8) → hG Γ k9 _ _ (hU M b (aI Γ 3 f)) 1 3 15 [some (.ref x), some (.ref b), some (.ref la), some (.int (nI 5)), some (.int (nI t)), o5, o6, o7, o8, o9] []) (N := 5) (fun t ht ih => ?_) 0 (Nat.zero_le _) (fun _ => 0) _ _ _ _ _ rfl rfl rfl
  intro f o5 o6 o7 o8 o9 a0 a1 a2
  refine g_iload (q := 17) C dX5_sums_15 rfl rfl ?_
  refine g_iload_n (q := 18) C dX5_sums_17 rfl rfl ?_
  refine g_icmp_ge (t := 109) (q := 21) C dX5_sums_18 (by decide) rfl (fun c_18 => ?_) (fun c_18 => ?_)
  · skip
    have hN := nI_ge_eq ht (by decide) c_18
    subst hN
    refine g_aload_n (q := 110) C dX5_sums_109 rfl (by first | exact hRef_r _ | exact hRef_o _ | exact hRef_n) rfl ?_
    exact g_aret C dX5_sums_110 (by first | exact Or.inl ⟨_, rfl⟩ | exact Or.inr ⟨_, rfl⟩) rfl (⟨b, f, rfl, eb, rfl, a0, a1, a2⟩) (by decide) (by decide)
  · skip
    have hlt := nI_nge_lt ht (by decide) c_18
    obtain ⟨hr1, rf, hr2, hr3⟩ := pRow t hlt
    refine g_aload_n (q := 22) C dX5_sums_21 rfl (by first | exact hRef_r _ | exact hRef_o _ | exact hRef_n) rfl ?_
    refine g_iload (q := 24) C dX5_sums_22 rfl rfl ?_
    refine g_aaldRR (q := 25) C t rfl hlt (by decide) dX5_sums_24 (hkn pLf _) hr1 rfl ?_
    refine g_astore5 (q := 27) C dX5_sums_25 (by first | exact hRef_r _ | exact hRef_o _ | exact hRef_n) (by first | rfl | exact hNw_rf _) rfl ?_
    refine g_aload (q := 29) C dX5_sums_27 rfl (by first | exact hRef_r _ | exact hRef_o _ | exact hRef_n) rfl ?_
    refine g_astore6 (q := 31) C dX5_sums_29 (by first | exact hRef_r _ | exact hRef_o _ | exact hRef_n) (by first | rfl | exact hNw_rf _) rfl ?_
    refine g_aload (q := 33) C dX5_sums_31 rfl (by first | exact hRef_r _ | exact hRef_o _ | exact hRef_n) rfl ?_
    refine g_alenR (q := 34) C dX5_sums_33 (hkn hr2 _) rfl ?_
    refine g_istore7 (q := 36) C dX5_sums_34 (by first | rfl | exact hNw_rf _) rfl ?_
    refine g_iconst (q := 37) (0) C dX5_sums_36 (by decide) rfl ?_
    refine g_istore8 (q := 39) C dX5_sums_37 (by first | rfl | exact hNw_rf _) rfl ?_
    refine h_loopU (P := fun h => ∀ (f : Nat → Int32) (o9 : Option Value), f 0 = hIt (fCnt (sB S)) 0 (t * 8 + h) → f 1 = hIt (fBad (sB S)) 0 (t * 8 + h) → f 2 = hIt (fSum (sB S)) 0 (t * 8 + h) → hG Γ k9 _ _ (hU M b (aI Γ 3 f)) 1 3 39 [some (.ref x), some (.ref b), some (.ref la), some (.int (nI 5)), some (.int (nI t)), some (.ref (rx t)), some (.ref (rx t)), some (.int (nI 8)), some (.int (nI h)), o9] []) (N := 8) (fun h hh ih2 => ?_) 0 (Nat.zero_le _) f _ a0 a1 a2
    intro f2 o9b d0 d1 d2
    refine g_iload (q := 41) C dX5_sums_39 rfl rfl ?_
    refine g_iload (q := 43) C dX5_sums_41 rfl rfl ?_
    refine g_icmp_ge (t := 103) (q := 46) C dX5_sums_43 (by decide) rfl (fun c_43 => ?_) (fun c_43 => ?_)
    · skip
      have hN2 := nI_ge_eq hh (by decide) c_43
      subst hN2
      refine g_iinc4 (q := 106) (1) C dX5_sums_103 (by decide) (by first | rfl | exact hNw_rf _) rfl ?_
      refine g_goto (t := 15) C dX5_sums_106 (by decide) ?_
      rw [nI_1]
      have hgo := ih hlt f2 (some (.ref (rx t))) (some (.ref (rx t))) (some (.int (nI 8))) (some (.int (nI 8))) o9b
      rw [Nat.succ_mul] at hgo
      exact hgo d0 d1 d2
    · skip
      have hlt2 := nI_nge_lt hh (by decide) c_43
      have hix : t * 8 + h < 40 := by omega
      refine g_aload (q := 48) C dX5_sums_46 rfl (by first | exact hRef_r _ | exact hRef_o _ | exact hRef_n) rfl ?_
      refine g_iload (q := 50) C dX5_sums_48 rfl rfl ?_
      refine g_aaldR (q := 51) C h rfl hlt2 (by omega) dX5_sums_50 (hkn hr2 _) (congrArg va_rf (hr3 h hlt2)) rfl ?_
      refine g_astore9 (q := 53) C dX5_sums_51 (by first | exact hRef_r _ | exact hRef_o _ | exact hRef_n) (by first | rfl | exact hNw_rf _) rfl ?_
      refine g_aload (q := 55) C dX5_sums_53 rfl (by first | exact hRef_r _ | exact hRef_o _ | exact hRef_n) rfl ?_
      refine g_ifnonnull (t := 61) (q := 58) C dX5_sums_55 (by decide) rfl (fun y_55 e_55 => ?_) (fun e_55 => ?_)
      · skip
        obtain ⟨j2, f9, tk2, hm2, q0, q1, q2, q3, q4⟩ := pB.of hix e_55
        have tk : (sB S (t * 8 + h)).1.isSome = true := by rw [tk2]; rfl
        rw [e_55]
        have hm3 := fun g => hkn hm2 g
        refine g_aload_n (q := 62) C dX5_sums_61 rfl (by first | exact hRef_r _ | exact hRef_o _ | exact hRef_n) rfl ?_
        refine g_iconst (q := 63) (0) C dX5_sums_62 (by decide) rfl ?_
        refine g_dup2 (q := 64) C dX5_sums_63 rfl rfl rfl ?_
        refine g_iald (q := 65) C 0 rfl (by decide) (by decide) dX5_sums_64 (hU_s _ _ _) rfl ?_
        refine g_iconst (q := 66) (1) C dX5_sums_65 (by decide) rfl ?_
        refine g_iadd (q := 67) C dX5_sums_66 rfl ?_
        refine g_iast (q := 68) C 0 rfl (by decide) (by decide) dX5_sums_67 (hU_s _ _ _) rfl ?_
        rw [hU_2]
        refine g_aload_n (q := 69) C dX5_sums_68 rfl (by first | exact hRef_r _ | exact hRef_o _ | exact hRef_n) rfl ?_
        refine g_iconst (q := 70) (1) C dX5_sums_69 (by decide) rfl ?_
        refine g_dup2 (q := 71) C dX5_sums_70 rfl rfl rfl ?_
        refine g_iald (q := 72) C 1 rfl (by decide) (by decide) dX5_sums_71 (hU_s _ _ _) rfl ?_
        refine g_aload (q := 74) C dX5_sums_72 rfl (by first | exact hRef_r _ | exact hRef_o _ | exact hRef_n) rfl ?_
        refine g_iconst (q := 75) (4) C dX5_sums_74 (by decide) rfl ?_
        refine g_iald (q := 76) C 4 rfl (by omega) (by omega) dX5_sums_75 (hm3 _) rfl ?_
        refine g_if_le (t := 83) (q := 79) C dX5_sums_76 (by decide) rfl (fun c_76 => ?_) (fun c_76 => ?_)
        · skip
          refine g_iconst (q := 84) (0) C dX5_sums_83 (by decide) rfl ?_
          refine g_iadd (q := 85) C dX5_sums_84 rfl ?_
          refine g_iast (q := 86) C 1 rfl (by decide) (by decide) dX5_sums_85 (hU_s _ _ _) rfl ?_
          rw [hU_2]
          refine g_aload_n (q := 87) C dX5_sums_86 rfl (by first | exact hRef_r _ | exact hRef_o _ | exact hRef_n) rfl ?_
          refine g_iconst (q := 88) (2) C dX5_sums_87 (by decide) rfl ?_
          refine g_dup2 (q := 89) C dX5_sums_88 rfl rfl rfl ?_
          refine g_iald (q := 90) C 2 rfl (by decide) (by decide) dX5_sums_89 (hU_s _ _ _) rfl ?_
          refine g_aload (q := 92) C dX5_sums_90 rfl (by first | exact hRef_r _ | exact hRef_o _ | exact hRef_n) rfl ?_
          refine g_callS1P (q := 95) C hy_X5_wet (c_X5_wet Γ l (hm3 _) (by decide) (by decide)) qw_473 ⟨Nat.le_of_ble_eq_true rfl, Nat.le_of_ble_eq_true rfl⟩ (Nat.le_of_ble_eq_true rfl) rfl dX5_sums_92 ⟨rfl, rfl⟩ ⟨(by decide), (by decide)⟩ rfl ?_
          refine g_iadd (q := 96) C dX5_sums_95 rfl ?_
          refine g_iast (q := 97) C 2 rfl (by decide) (by decide) dX5_sums_96 (hU_s _ _ _) rfl ?_
          rw [hU_2]
          refine g_iinc8 (q := 100) (1) C dX5_sums_97 (by decide) (by first | rfl | exact hNw_rf _) rfl ?_
          refine g_goto (t := 39) C dX5_sums_100 (by decide) ?_
          rw [nI_1]
          refine ih2 hlt2 _ _ ?_ ?_ ?_
          · rw [show t * 8 + (h + 1) = (t * 8 + h) + 1 from rfl, cnt_y tk]
            rw [pk_un (by decide), pk_un (by decide), pk_us, d0]
          · rw [show t * 8 + (h + 1) = (t * 8 + h) + 1 from rfl, bad_0 (by rw [← q4]; exact Int32.not_lt.mpr c_76)]
            rw [pk_un (by decide), pk_us, pk_un (by decide), d1, Int32.add_zero]
          · rw [show t * 8 + (h + 1) = (t * 8 + h) + 1 from rfl, sum_y tk]
            rw [pk_us, pk_un (by decide), pk_un (by decide), d2, q1, q2]
            rfl
        · skip
          refine g_iconst (q := 80) (1) C dX5_sums_79 (by decide) rfl ?_
          refine g_goto (t := 84) C dX5_sums_80 (by decide) ?_
          refine g_iadd (q := 85) C dX5_sums_84 rfl ?_
          refine g_iast (q := 86) C 1 rfl (by decide) (by decide) dX5_sums_85 (hU_s _ _ _) rfl ?_
          rw [hU_2]
          refine g_aload_n (q := 87) C dX5_sums_86 rfl (by first | exact hRef_r _ | exact hRef_o _ | exact hRef_n) rfl ?_
          refine g_iconst (q := 88) (2) C dX5_sums_87 (by decide) rfl ?_
          refine g_dup2 (q := 89) C dX5_sums_88 rfl rfl rfl ?_
          refine g_iald (q := 90) C 2 rfl (by decide) (by decide) dX5_sums_89 (hU_s _ _ _) rfl ?_
          refine g_aload (q := 92) C dX5_sums_90 rfl (by first | exact hRef_r _ | exact hRef_o _ | exact hRef_n) rfl ?_
          refine g_callS1P (q := 95) C hy_X5_wet (c_X5_wet Γ l (hm3 _) (by decide) (by decide)) qw_473 ⟨Nat.le_of_ble_eq_true rfl, Nat.le_of_ble_eq_true rfl⟩ (Nat.le_of_ble_eq_true rfl) rfl dX5_sums_92 ⟨rfl, rfl⟩ ⟨(by decide), (by decide)⟩ rfl ?_
          refine g_iadd (q := 96) C dX5_sums_95 rfl ?_
          refine g_iast (q := 97) C 2 rfl (by decide) (by decide) dX5_sums_96 (hU_s _ _ _) rfl ?_
          rw [hU_2]
          refine g_iinc8 (q := 100) (1) C dX5_sums_97 (by decide) (by first | rfl | exact hNw_rf _) rfl ?_
          refine g_goto (t := 39) C dX5_sums_100 (by decide) ?_
          rw [nI_1]
          refine ih2 hlt2 _ _ ?_ ?_ ?_
          · rw [show t * 8 + (h + 1) = (t * 8 + h) + 1 from rfl, cnt_y tk]
            rw [pk_un (by decide), pk_un (by decide), pk_us, d0]
          · rw [show t * 8 + (h + 1) = (t * 8 + h) + 1 from rfl, bad_y tk (by rw [← q4]; exact Int32.not_le.mp c_76)]
            rw [pk_un (by decide), pk_us, pk_un (by decide), d1]
          · rw [show t * 8 + (h + 1) = (t * 8 + h) + 1 from rfl, sum_y tk]
            rw [pk_us, pk_un (by decide), pk_un (by decide), d2, q1, q2]
            rfl
      · skip
        skip
        refine g_goto (t := 97) C dX5_sums_58 (by decide) ?_
        refine g_iinc8 (q := 100) (1) C dX5_sums_97 (by decide) (by first | rfl | exact hNw_rf _) rfl ?_
        refine g_goto (t := 39) C dX5_sums_100 (by decide) ?_
        rw [nI_1]
        have nt : (sB S (t * 8 + h)).1.isSome = false := by rw [pB.2.1 _ hix e_55]; rfl
        exact ih2 hlt2 f2 _ (d0.trans (cnt_n nt).symm) (d1.trans (bad_n nt).symm) (d2.trans (sum_n nt).symm)
set_option maxRecDepth 100000 in
set_option maxHeartbeats 4000000 in
theorem c_X5_more (Γ : hGam) (l : Launch) {M : hM} {r v n K : Nat} {w w2 : Bool} {f : Nat → Option Nat} {vf : Nat → Int32} (h0 : M r = some (w, aR Γ n f)) (hv : M v = some (w2, aI Γ K vf)) (hE : ∀ i, i < n → ∃ (a : Nat) (w3 : Bool) (K3 : Nat) (g3 : Nat → Int32), f i = some a ∧ M a = some (w3, aI Γ K3 g3)) (hn : n ≤ 6) : hMet Γ l yX5_more cX5_more 4 (some (.array (.array .int))) rm_X5_more [.ref r, .ref v] M (hpQ (fun o M1 => ∃ b f2, o = some b ∧ M b = none ∧ M1 = hU M b (aR Γ (n + 1) f2) ∧ (∀ i, i < n → f2 i = f i) ∧ f2 n = some v)) := by
  refine hMet_of (by decide +kernel) (Nat.le_of_ble_eq_true rfl) (hCat_cons rfl (hCat_cons rfl hCat_nil)) (fun k9 C => ?_)
  show hG _ _ _ _ _ _ _ _ [some (.ref r), some (.ref v), none, none] _
  refine g_aload_n (q := 1) C dX5_more_0 rfl (by first | exact hRef_r _ | exact hRef_o _ | exact hRef_n) rfl ?_
  refine g_alenR (q := 2) C dX5_more_1 (by exact h0) rfl ?_
  refine g_iconst (q := 3) (1) C dX5_more_2 (by decide) rfl ?_
  refine g_iadd (q := 4) C dX5_more_3 rfl ?_
  refine g_newR (q := 7) C qw_495 (nI_1 n) (by omega) (by decide) (by show 0 + (n + 1) ≤ 7; omega) dX5_more_4 rfl (fun b eb => ?_)
  rw [Nat.zero_add, Nat.zero_add]
  have hkn : ∀ {a : Nat} {w : Bool} {e : va_E}, M a = some (w, e) → ∀ g : Nat → Option Nat, hU M b (aR Γ (n + 1) g) a = some (w, e) := fun {a w e} ha g => (hU_n (fun q => by rw [q, eb] at ha; cases ha)).trans ha
  refine g_astore2 (q := 8) C dX5_more_7 (by first | exact hRef_r _ | exact hRef_o _ | exact hRef_n) (by first | rfl | exact hNw_rf _) rfl ?_
  refine g_iconst (q := 9) (0) C dX5_more_8 (by decide) rfl ?_
  refine g_istore3 (q := 10) C dX5_more_9 (by first | rfl | exact hNw_rf _) rfl ?_
  refine h_loopU (P := fun j => ∀ g : Nat → Option Nat, (∀ i, i < j → g i = f i) → hG Γ k9 _ _ (hU M b (aR Γ (n + 1) g)) 1 (n + 1) 10 [some (.ref r), some (.ref v), some (.ref b), some (.int (nI j))] []) (N := n) (fun j hj ih => ?_) 0 (Nat.zero_le _) _ (fun i hi => absurd hi (Nat.not_lt_zero _))
  intro g hg
  refine g_iload_n (q := 11) C dX5_more_10 rfl rfl ?_
  refine g_aload_n (q := 12) C dX5_more_11 rfl (by first | exact hRef_r _ | exact hRef_o _ | exact hRef_n) rfl ?_
  refine g_alenR (q := 13) C dX5_more_12 (hkn h0 _) rfl ?_
  refine g_icmp_ge (t := 28) (q := 16) C dX5_more_13 (by decide) rfl (fun c_13 => ?_) (fun c_13 => ?_)
  · skip
    have hN := nI_ge_eq hj (by omega) c_13
    subst hN
    refine g_aload_n (q := 29) C dX5_more_28 rfl (by first | exact hRef_r _ | exact hRef_o _ | exact hRef_n) rfl ?_
    refine g_aload_n (q := 30) C dX5_more_29 rfl (by first | exact hRef_r _ | exact hRef_o _ | exact hRef_n) rfl ?_
    refine g_alenR (q := 31) C dX5_more_30 (hkn h0 _) rfl ?_
    refine g_aload_n (q := 32) C dX5_more_31 rfl (by first | exact hRef_r _ | exact hRef_o _ | exact hRef_n) rfl ?_
    refine g_aastR (q := 33) C j rfl (by omega) (by omega) dX5_more_32 (hU_s _ _ _) (hkn hv _) rfl ?_
    rw [hU_2]
    refine g_aload_n (q := 34) C dX5_more_33 rfl (by first | exact hRef_r _ | exact hRef_o _ | exact hRef_n) rfl ?_
    exact g_aret C dX5_more_34 (by first | exact Or.inl ⟨_, rfl⟩ | exact Or.inr ⟨_, rfl⟩) rfl (⟨b, _, rfl, eb, rfl, fun i hi => (va_up_ne _ _ (by omega)).trans (hg i hi), va_up_self _ _ _⟩) (by decide) (by show _ ≤ 7; omega)
  · skip
    have hlt := nI_nge_lt hj (by omega) c_13
    obtain ⟨aj, w3, K3, g3, ej, hj3⟩ := hE j hlt
    refine g_aload_n (q := 17) C dX5_more_16 rfl (by first | exact hRef_r _ | exact hRef_o _ | exact hRef_n) rfl ?_
    refine g_iload_n (q := 18) C dX5_more_17 rfl rfl ?_
    refine g_aload_n (q := 19) C dX5_more_18 rfl (by first | exact hRef_r _ | exact hRef_o _ | exact hRef_n) rfl ?_
    refine g_iload_n (q := 20) C dX5_more_19 rfl rfl ?_
    refine g_aaldR (q := 21) C j rfl hlt (by omega) dX5_more_20 (hkn h0 _) (congrArg va_rf ej) rfl ?_
    refine g_aastR (q := 22) C j rfl (by omega) (by omega) dX5_more_21 (hU_s _ _ _) (hkn hj3 _) rfl ?_
    rw [hU_2]
    refine g_iinc3 (q := 25) (1) C dX5_more_22 (by decide) (by first | rfl | exact hNw_rf _) rfl ?_
    refine g_goto (t := 10) C dX5_more_25 (by decide) ?_
    rw [nI_1]
    refine ih hlt _ (fun i hi => ?_)
    by_cases q : i = j
    · subst q; rw [va_up_self, ej]
    · rw [va_up_ne _ _ q]; exact hg i (by omega)
