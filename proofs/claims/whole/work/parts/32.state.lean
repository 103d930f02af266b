set_option maxRecDepth 100000 in
set_option maxHeartbeats 4000000 in
theorem c_X6_isIn (Γ : hGam) (l : Launch) {M : hM} (p lo hi : Int32)   : hMet Γ l yX6_isIn cX6_isIn 3 (some .boolean) rm_X6_isIn [.int p, .int lo, .int hi] M (hpP M (bI (decide (lo ≤ p) && decide (p ≤ hi)))) := by
  refine hMet_of (by decide +kernel) (Nat.le_of_ble_eq_true rfl) (hCat_cons rfl (hCat_cons rfl (hCat_cons rfl hCat_nil))) (fun k9 C => ?_)
  show hG _ _ _ _ _ _ _ _ [some (.int p), some (.int lo), some (.int hi)] _
  refine g_iload_n (q := 1) C dX6_isIn_0 rfl rfl ?_
  refine g_iload_n (q := 2) C dX6_isIn_1 rfl rfl ?_
  refine g_icmp_lt (t := 14) (q := 5) C dX6_isIn_2 (by decide) rfl (fun c_2 => ?_) (fun c_2 => ?_)
  · skip
    refine g_iconst (q := 15) (0) C dX6_isIn_14 (by decide) rfl ?_
    exact g_zret C dX6_isIn_15 (by first | rfl | exact hNarB _) (⟨by rw [decide_eq_false (Int32.not_le.mpr c_2)]; rfl, rfl⟩) (Nat.zero_le _) (Nat.zero_le _)
  · skip
    refine g_iload_n (q := 6) C dX6_isIn_5 rfl rfl ?_
    refine g_iload_n (q := 7) C dX6_isIn_6 rfl rfl ?_
    refine g_icmp_gt (t := 14) (q := 10) C dX6_isIn_7 (by decide) rfl (fun c_7 => ?_) (fun c_7 => ?_)
    · skip
      refine g_iconst (q := 15) (0) C dX6_isIn_14 (by decide) rfl ?_
      exact g_zret C dX6_isIn_15 (by first | rfl | exact hNarB _) (⟨by rw [decide_eq_false (Int32.not_le.mpr c_7), Bool.and_false]; rfl, rfl⟩) (Nat.zero_le _) (Nat.zero_le _)
    · skip
      refine g_iconst (q := 11) (1) C dX6_isIn_10 (by decide) rfl ?_
      refine g_goto (t := 15) C dX6_isIn_11 (by decide) ?_
      exact g_zret C dX6_isIn_15 (by first | rfl | exact hNarB _) (⟨by rw [decide_eq_true (Int32.not_lt.mp c_2), decide_eq_true (Int32.not_lt.mp c_7)]; rfl, rfl⟩) (Nat.zero_le _) (Nat.zero_le _)
set_option maxRecDepth 100000 in
set_option maxHeartbeats 4000000 in
theorem c_X5_hangs (Γ : hGam) (l : Launch) {M : hM} {x o : Nat} {ad : Nat → Nat} {G : Nat → Nat → Int32} {d9 : Int32} (k : Nat) (h : mdA Γ M ad G) (hs : M x = some (true, oSt ad o d9)) (ho : o + 4 < 15) (hk : k < 40) : hMet Γ l yX5_hangs cX5_hangs 2 (some .boolean) rm_X5_hangs [.ref x, .int (nI k)] M (hpP M (bI (bTak ((vG G o) k)))) := by
  refine hMet_of (by decide +kernel) (Nat.le_of_ble_eq_true rfl) (hCat_cons rfl (hCat_cons rfl hCat_nil)) (fun k9 C => ?_)
  show hG _ _ _ _ _ _ _ _ [some (.ref x), some (.int (nI k))] _
  refine g_aload_n (q := 1) C dX5_hangs_0 rfl (by first | exact hRef_r _ | exact hRef_o _ | exact hRef_n) rfl ?_
  refine g_get (q := 4) C hcl_X5 1 (by decide) qw_685 rfl dX5_hangs_1 (by exact hs) rfl rfl ?_
  refine g_iload_n (q := 5) C dX5_hangs_4 rfl rfl ?_
  refine g_iald (q := 6) C k rfl hk (by decide) dX5_hangs_5 (h.at0 (c := o) (by omega)) rfl ?_
  refine g_iconst (q := 7) (-1) C dX5_hangs_6 (by decide) rfl ?_
  refine g_icmp_eq (t := 14) (q := 10) C dX5_hangs_7 (by decide) rfl (fun c_7 => ?_) (fun c_7 => ?_)
  · skip
    refine g_iconst (q := 15) (0) C dX5_hangs_14 (by decide) rfl ?_
    exact g_zret C dX5_hangs_15 (by first | rfl | exact hNarB _) (⟨(hang0 c_7).symm, rfl⟩) (Nat.zero_le _) (Nat.zero_le _)
  · skip
    refine g_iconst (q := 11) (1) C dX5_hangs_10 (by decide) rfl ?_
    refine g_goto (t := 15) C dX5_hangs_11 (by decide) ?_
    exact g_zret C dX5_hangs_15 (by first | rfl | exact hNarB _) (⟨(hang1 c_7).symm, rfl⟩) (Nat.zero_le _) (Nat.zero_le _)
set_option maxRecDepth 100000 in
set_option maxHeartbeats 4000000 in
theorem c_X5_wetness (Γ : hGam) (l : Launch) {M : hM} {x o : Nat} {ad : Nat → Nat} {G : Nat → Nat → Int32} {d9 : Int32} (k : Nat) (h : mdA Γ M ad G) (hs : M x = some (true, oSt ad o d9)) (ho : o + 4 < 15) (hk : k < 40) : hMet Γ l yX5_wetness cX5_wetness 2 (some .int) rm_X5_wetness [.ref x, .int (nI k)] M (hpP M (bWet ((vG G o) k))) := by
  refine hMet_of (by decide +kernel) (Nat.le_of_ble_eq_true rfl) (hCat_cons rfl (hCat_cons rfl hCat_nil)) (fun k9 C => ?_)
  show hG _ _ _ _ _ _ _ _ [some (.ref x), some (.int (nI k))] _
  refine g_aload_n (q := 1) C dX5_wetness_0 rfl (by first | exact hRef_r _ | exact hRef_o _ | exact hRef_n) rfl ?_
  refine g_get (q := 4) C hcl_X5 2 (by decide) qw_687 rfl dX5_wetness_1 (by exact hs) rfl rfl ?_
  refine g_iload_n (q := 5) C dX5_wetness_4 rfl rfl ?_
  refine g_iald (q := 6) C k rfl hk (by decide) dX5_wetness_5 (h.at0 (c := o + 1) (by omega)) rfl ?_
  refine g_aload_n (q := 7) C dX5_wetness_6 rfl (by first | exact hRef_r _ | exact hRef_o _ | exact hRef_n) rfl ?_
  refine g_get (q := 10) C hcl_X5 3 (by decide) qw_689 rfl dX5_wetness_7 (by exact hs) rfl rfl ?_
  refine g_iload_n (q := 11) C dX5_wetness_10 rfl rfl ?_
  refine g_iald (q := 12) C k rfl hk (by decide) dX5_wetness_11 (h.at0 (c := o + 2) (by omega)) rfl ?_
  refine g_iadd (q := 13) C dX5_wetness_12 rfl ?_
  refine g_iconst (q := 14) (2) C dX5_wetness_13 (by decide) rfl ?_
  refine g_idiv (q := 15) C dX5_wetness_14 (by decide) rfl ?_
  exact g_iret C dX5_wetness_15 (⟨rfl, rfl⟩) (Nat.zero_le _) (Nat.zero_le _)
set_option maxRecDepth 100000 in
set_option maxHeartbeats 4000000 in
theorem c_X5_beside_m (Γ : hGam) (l : Launch) {M : hM} {x o : Nat} {ad : Nat → Nat} {G : Nat → Nat → Int32} {d9 : Int32} (k : Nat) (h : mdA Γ M ad G) (hs : M x = some (true, oSt ad o d9)) (ho : o + 4 < 15) (hk : k < 40) : hMet Γ l yX5_beside cX5_beside 4 (some .int) rm_X5_beside [.ref x, .int (nI k), .int (-1)] M (hpP M (enc (bmO (vG G o) k))) := by
  refine hMet_of (by decide +kernel) (Nat.le_of_ble_eq_true rfl) (hCat_cons rfl (hCat_cons rfl (hCat_cons rfl hCat_nil))) (fun k9 C => ?_)
  show hG _ _ _ _ _ _ _ _ [some (.ref x), some (.int (nI k)), some (.int (-1)), none] _
  refine g_iload_n (q := 1) C dX5_beside_0 rfl rfl ?_
  refine g_bipush (q := 3) (8) C dX5_beside_1 (by decide) rfl ?_
  refine g_irem (q := 4) C dX5_beside_3 (by decide) rfl ?_
  refine g_iload_n (q := 5) C dX5_beside_4 rfl rfl ?_
  refine g_iadd (q := 6) C dX5_beside_5 rfl ?_
  refine g_istore3 (q := 7) C dX5_beside_6 (by first | rfl | exact hNw_rf _) rfl ?_
  refine g_iload_n (q := 8) C dX5_beside_7 rfl rfl ?_
  refine g_iconst (q := 9) (0) C dX5_beside_8 (by decide) rfl ?_
  refine g_bipush (q := 11) (7) C dX5_beside_9 (by decide) rfl ?_
  refine g_callSN3P (q := 14) C hy_X6_isIn (c_X6_isIn Γ l _ 0 7) qw_812 ⟨Nat.le_of_ble_eq_true rfl, Nat.le_of_ble_eq_true rfl⟩ (Nat.le_of_ble_eq_true rfl) rfl dX5_beside_11 ⟨rfl, rfl⟩ ⟨Nat.zero_le _, Nat.zero_le _⟩ rfl ?_
  refine g_ifB_eq (t := 33) (q := 17) C dX5_beside_14 (by decide) rfl (fun c_14 => ?_) (fun c_14 => ?_)
  · skip
    refine g_iconst (q := 34) (-1) C dX5_beside_33 (by decide) rfl ?_
    exact g_iret C dX5_beside_34 (⟨by unfold bmO; rw [← bm_is hk, show (decide _ && decide _) = false from c_14]; rfl, rfl⟩) (Nat.zero_le _) (Nat.zero_le _)
  · skip
    have f_14 : decide (k % 8 ≠ 0) = true := (bm_is hk).symm.trans c_14
    have g_14 := of_decide_eq_true f_14
    refine g_aload_n (q := 18) C dX5_beside_17 rfl (by first | exact hRef_r _ | exact hRef_o _ | exact hRef_n) rfl ?_
    refine g_iload_n (q := 19) C dX5_beside_18 rfl rfl ?_
    refine g_iload_n (q := 20) C dX5_beside_19 rfl rfl ?_
    refine g_iadd (q := 21) C dX5_beside_20 rfl ?_
    rw [(bm_k hk (of_decide_eq_true f_14))]
    refine g_callV1P (q := 24) C hy_X5_hangs (c_X5_hangs Γ l (k - 1) h hs ho (by omega)) qw_786 (by exact hs) rfl ⟨Nat.le_of_ble_eq_true rfl, Nat.le_of_ble_eq_true rfl⟩ (Nat.le_of_ble_eq_true rfl) rfl dX5_beside_21 ⟨rfl, rfl⟩ ⟨Nat.zero_le _, Nat.zero_le _⟩ rfl ?_
    refine g_ifB_eq (t := 33) (q := 27) C dX5_beside_24 (by decide) rfl (fun c_24 => ?_) (fun c_24 => ?_)
    · skip
      refine g_iconst (q := 34) (-1) C dX5_beside_33 (by decide) rfl ?_
      exact g_iret C dX5_beside_34 (⟨by unfold bmO; rw [c_24, Bool.and_false]; rfl, rfl⟩) (Nat.zero_le _) (Nat.zero_le _)
    · skip
      refine g_iload_n (q := 28) C dX5_beside_27 rfl rfl ?_
      refine g_iload_n (q := 29) C dX5_beside_28 rfl rfl ?_
      refine g_iadd (q := 30) C dX5_beside_29 rfl ?_
      refine g_goto (t := 34) C dX5_beside_30 (by decide) ?_
      exact g_iret C dX5_beside_34 (⟨by unfold bmO; rw [f_14, c_24, (bm_k hk (of_decide_eq_true f_14))]; rfl, rfl⟩) (Nat.zero_le _) (Nat.zero_le _)
set_option maxRecDepth 100000 in
set_option maxHeartbeats 4000000 in
theorem c_X5_beside_p (Γ : hGam) (l : Launch) {M : hM} {x o : Nat} {ad : Nat → Nat} {G : Nat → Nat → Int32} {d9 : Int32} (k : Nat) (h : mdA Γ M ad G) (hs : M x = some (true, oSt ad o d9)) (ho : o + 4 < 15) (hk : k < 40) : hMet Γ l yX5_beside cX5_beside 4 (some .int) rm_X5_beside [.ref x, .int (nI k), .int 1] M (hpP M (enc (bpO (vG G o) k))) := by
  refine hMet_of (by decide +kernel) (Nat.le_of_ble_eq_true rfl) (hCat_cons rfl (hCat_cons rfl (hCat_cons rfl hCat_nil))) (fun k9 C => ?_)
  show hG _ _ _ _ _ _ _ _ [some (.ref x), some (.int (nI k)), some (.int 1), none] _
  refine g_iload_n (q := 1) C dX5_beside_0 rfl rfl ?_
  refine g_bipush (q := 3) (8) C dX5_beside_1 (by decide) rfl ?_
  refine g_irem (q := 4) C dX5_beside_3 (by decide) rfl ?_
  refine g_iload_n (q := 5) C dX5_beside_4 rfl rfl ?_
  refine g_iadd (q := 6) C dX5_beside_5 rfl ?_
  refine g_istore3 (q := 7) C dX5_beside_6 (by first | rfl | exact hNw_rf _) rfl ?_
  refine g_iload_n (q := 8) C dX5_beside_7 rfl rfl ?_
  refine g_iconst (q := 9) (0) C dX5_beside_8 (by decide) rfl ?_
  refine g_bipush (q := 11) (7) C dX5_beside_9 (by decide) rfl ?_
  refine g_callSN3P (q := 14) C hy_X6_isIn (c_X6_isIn Γ l _ 0 7) qw_812 ⟨Nat.le_of_ble_eq_true rfl, Nat.le_of_ble_eq_true rfl⟩ (Nat.le_of_ble_eq_true rfl) rfl dX5_beside_11 ⟨rfl, rfl⟩ ⟨Nat.zero_le _, Nat.zero_le _⟩ rfl ?_
  refine g_ifB_eq (t := 33) (q := 17) C dX5_beside_14 (by decide) rfl (fun c_14 => ?_) (fun c_14 => ?_)
  · skip
    refine g_iconst (q := 34) (-1) C dX5_beside_33 (by decide) rfl ?_
    exact g_iret C dX5_beside_34 (⟨by unfold bpO; rw [← bp_is hk, show (decide _ && decide _) = false from c_14]; rfl, rfl⟩) (Nat.zero_le _) (Nat.zero_le _)
  · skip
    have f_14 : decide (k % 8 ≠ 7) = true := (bp_is hk).symm.trans c_14
    have g_14 := of_decide_eq_true f_14
    refine g_aload_n (q := 18) C dX5_beside_17 rfl (by first | exact hRef_r _ | exact hRef_o _ | exact hRef_n) rfl ?_
    refine g_iload_n (q := 19) C dX5_beside_18 rfl rfl ?_
    refine g_iload_n (q := 20) C dX5_beside_19 rfl rfl ?_
    refine g_iadd (q := 21) C dX5_beside_20 rfl ?_
    rw [(nI_1 k)]
    refine g_callV1P (q := 24) C hy_X5_hangs (c_X5_hangs Γ l (k + 1) h hs ho (by omega)) qw_786 (by exact hs) rfl ⟨Nat.le_of_ble_eq_true rfl, Nat.le_of_ble_eq_true rfl⟩ (Nat.le_of_ble_eq_true rfl) rfl dX5_beside_21 ⟨rfl, rfl⟩ ⟨Nat.zero_le _, Nat.zero_le _⟩ rfl ?_
    refine g_ifB_eq (t := 33) (q := 27) C dX5_beside_24 (by decide) rfl (fun c_24 => ?_) (fun c_24 => ?_)
    · skip
      refine g_iconst (q := 34) (-1) C dX5_beside_33 (by decide) rfl ?_
      exact g_iret C dX5_beside_34 (⟨by unfold bpO; rw [c_24, Bool.and_false]; rfl, rfl⟩) (Nat.zero_le _) (Nat.zero_le _)
    · skip
      refine g_iload_n (q := 28) C dX5_beside_27 rfl rfl ?_
      refine g_iload_n (q := 29) C dX5_beside_28 rfl rfl ?_
      refine g_iadd (q := 30) C dX5_beside_29 rfl ?_
      refine g_goto (t := 34) C dX5_beside_30 (by decide) ?_
      exact g_iret C dX5_beside_34 (⟨by unfold bpO; rw [f_14, c_24, (nI_1 k)]; rfl, rfl⟩) (Nat.zero_le _) (Nat.zero_le _)
set_option maxRecDepth 100000 in
set_option maxHeartbeats 4000000 in
theorem c_X5_isWetter (Γ : hGam) (l : Launch) {M : hM} {x o : Nat} {ad : Nat → Nat} {G : Nat → Nat → Int32} {d9 : Int32} (k : Nat) (oj : Option Nat) (h : mdA Γ M ad G) (hs : M x = some (true, oSt ad o d9)) (ho : o + 4 < 15) (hk : k < 40) (hoj : ∀ j, oj = some j → j < 40) : hMet Γ l yX5_isWetter cX5_isWetter 3 (some .int) rm_X5_isWetter [.ref x, .int (enc oj), .int (nI k)] M (hpP M (bI (iwO (vG G o) oj k))) := by
  refine hMet_of (by decide +kernel) (Nat.le_of_ble_eq_true rfl) (hCat_cons rfl (hCat_cons rfl (hCat_cons rfl hCat_nil))) (fun k9 C => ?_)
  show hG _ _ _ _ _ _ _ _ [some (.ref x), some (.int (enc oj)), some (.int (nI k))] _
  refine g_iload_n (q := 1) C dX5_isWetter_0 rfl rfl ?_
  refine g_iconst (q := 2) (-1) C dX5_isWetter_1 (by decide) rfl ?_
  refine g_icmp_eq (t := 22) (q := 5) C dX5_isWetter_2 (by decide) rfl (fun c_2 => ?_) (fun c_2 => ?_)
  · skip
    have f_2 := (enc_m1 (fun j q => Nat.lt_trans (hoj j q) (by decide))).mp c_2
    subst f_2
    refine g_iconst (q := 23) (0) C dX5_isWetter_22 (by decide) rfl ?_
    exact g_iret C dX5_isWetter_23 (⟨rfl, rfl⟩) (Nat.zero_le _) (Nat.zero_le _)
  · skip
    obtain ⟨j, rfl⟩ : ∃ j, oj = some j := by
      cases oj with
      | none => exact absurd rfl c_2
      | some j => exact ⟨j, rfl⟩
    show hG _ _ _ _ _ _ _ _ [some (.ref x), some (.int (nI j)), some (.int (nI k))] _
    refine g_aload_n (q := 6) C dX5_isWetter_5 rfl (by first | exact hRef_r _ | exact hRef_o _ | exact hRef_n) rfl ?_
    refine g_iload_n (q := 7) C dX5_isWetter_6 rfl rfl ?_
    refine g_callV1P (q := 10) C hy_X5_wetness (c_X5_wetness Γ l j h hs ho (hoj j rfl)) qw_787 (by exact hs) rfl ⟨Nat.le_of_ble_eq_true rfl, Nat.le_of_ble_eq_true rfl⟩ (Nat.le_of_ble_eq_true rfl) rfl dX5_isWetter_7 ⟨rfl, rfl⟩ ⟨Nat.zero_le _, Nat.zero_le _⟩ rfl ?_
    refine g_aload_n (q := 11) C dX5_isWetter_10 rfl (by first | exact hRef_r _ | exact hRef_o _ | exact hRef_n) rfl ?_
    refine g_iload_n (q := 12) C dX5_isWetter_11 rfl rfl ?_
    refine g_callV1P (q := 15) C hy_X5_wetness (c_X5_wetness Γ l k h hs ho hk) qw_787 (by exact hs) rfl ⟨Nat.le_of_ble_eq_true rfl, Nat.le_of_ble_eq_true rfl⟩ (Nat.le_of_ble_eq_true rfl) rfl dX5_isWetter_12 ⟨rfl, rfl⟩ ⟨Nat.zero_le _, Nat.zero_le _⟩ rfl ?_
    refine g_icmp_le (t := 22) (q := 18) C dX5_isWetter_15 (by decide) rfl (fun c_15 => ?_) (fun c_15 => ?_)
    · skip
      refine g_iconst (q := 23) (0) C dX5_isWetter_22 (by decide) rfl ?_
      exact g_iret C dX5_isWetter_23 (⟨by show _ = bI (decide _); rw [decide_eq_false (Int32.not_lt.mpr c_15)]; rfl, rfl⟩) (Nat.zero_le _) (Nat.zero_le _)
    · skip
      refine g_iconst (q := 19) (1) C dX5_isWetter_18 (by decide) rfl ?_
      refine g_goto (t := 23) C dX5_isWetter_19 (by decide) ?_
      exact g_iret C dX5_isWetter_23 (⟨by show _ = bI (decide _); rw [decide_eq_true (Int32.not_le.mp c_15)]; rfl, rfl⟩) (Nat.zero_le _) (Nat.zero_le _)
set_option maxRecDepth 100000 in
set_option maxHeartbeats 4000000 in
theorem c_X5_isBad (Γ : hGam) (l : Launch) {M : hM} {x o : Nat} {ad : Nat → Nat} {G : Nat → Nat → Int32} {d9 : Int32} (oj : Option Nat) (h : mdA Γ M ad G) (hs : M x = some (true, oSt ad o d9)) (ho : o + 4 < 15) (hoj : ∀ j, oj = some j → j < 40) : hMet Γ l yX5_isBad cX5_isBad 2 (some .boolean) rm_X5_isBad [.ref x, .int (enc oj)] M (hpP M (bI (ibO (vG G o) oj))) := by
  refine hMet_of (by decide +kernel) (Nat.le_of_ble_eq_true rfl) (hCat_cons rfl (hCat_cons rfl hCat_nil)) (fun k9 C => ?_)
  show hG _ _ _ _ _ _ _ _ [some (.ref x), some (.int (enc oj))] _
  refine g_iload_n (q := 1) C dX5_isBad_0 rfl rfl ?_
  refine g_iconst (q := 2) (-1) C dX5_isBad_1 (by decide) rfl ?_
  refine g_icmp_eq (t := 19) (q := 5) C dX5_isBad_2 (by decide) rfl (fun c_2 => ?_) (fun c_2 => ?_)
  · skip
    have f_2 := (enc_m1 (fun j q => Nat.lt_trans (hoj j q) (by decide))).mp c_2
    subst f_2
    refine g_iconst (q := 20) (0) C dX5_isBad_19 (by decide) rfl ?_
    exact g_zret C dX5_isBad_20 (by first | rfl | exact hNarB _) (⟨rfl, rfl⟩) (Nat.zero_le _) (Nat.zero_le _)
  · skip
    obtain ⟨j, rfl⟩ : ∃ j, oj = some j := by
      cases oj with
      | none => exact absurd rfl c_2
      | some j => exact ⟨j, rfl⟩
    show hG _ _ _ _ _ _ _ _ [some (.ref x), some (.int (nI j))] _
    refine g_aload_n (q := 6) C dX5_isBad_5 rfl (by first | exact hRef_r _ | exact hRef_o _ | exact hRef_n) rfl ?_
    refine g_get (q := 9) C hcl_X5 5 (by decide) qw_693 rfl dX5_isBad_6 (by exact hs) rfl rfl ?_
    refine g_iload_n (q := 10) C dX5_isBad_9 rfl rfl ?_
    refine g_iald (q := 11) C j rfl (hoj j rfl) (by decide) dX5_isBad_10 (h.at0 (c := o + 4) (by omega)) rfl ?_
    refine g_iconst (q := 12) (3) C dX5_isBad_11 (by decide) rfl ?_
    refine g_icmp_lt (t := 19) (q := 15) C dX5_isBad_12 (by decide) rfl (fun c_12 => ?_) (fun c_12 => ?_)
    · skip
      refine g_iconst (q := 20) (0) C dX5_isBad_19 (by decide) rfl ?_
      exact g_zret C dX5_isBad_20 (by first | rfl | exact hNarB _) (⟨by show _ = bI (decide (3 ≤ G (o + 4) j)); rw [decide_eq_false (Int32.not_le.mpr c_12)]; rfl, rfl⟩) (Nat.zero_le _) (Nat.zero_le _)
    · skip
      refine g_iconst (q := 16) (1) C dX5_isBad_15 (by decide) rfl ?_
      refine g_goto (t := 20) C dX5_isBad_16 (by decide) ?_
      exact g_zret C dX5_isBad_20 (by first | rfl | exact hNarB _) (⟨by show _ = bI (decide (3 ≤ G (o + 4) j)); rw [decide_eq_true (Int32.not_lt.mp c_12)]; rfl, rfl⟩) (Nat.zero_le _) (Nat.zero_le _)
set_option maxRecDepth 100000 in
set_option maxHeartbeats 4000000 in
theorem c_X5_wetter (Γ : hGam) (l : Launch) {M : hM} {x o : Nat} {ad : Nat → Nat} {G : Nat → Nat → Int32} {d9 : Int32} (k : Nat) (h : mdA Γ M ad G) (hs : M x = some (true, oSt ad o d9)) (ho : o + 4 < 15) (hk : k < 40) : hMet Γ l yX5_wetter cX5_wetter 2 (some .int) rm_X5_wetter [.ref x, .int (nI k)] M (hpP M (wets (vG G o) k)) := by
  refine hMet_of (by decide +kernel) (Nat.le_of_ble_eq_true rfl) (hCat_cons rfl (hCat_cons rfl hCat_nil)) (fun k9 C => ?_)
  show hG _ _ _ _ _ _ _ _ [some (.ref x), some (.int (nI k))] _
  refine g_aload_n (q := 1) C dX5_wetter_0 rfl (by first | exact hRef_r _ | exact hRef_o _ | exact hRef_n) rfl ?_
  refine g_aload_n (q := 2) C dX5_wetter_1 rfl (by first | exact hRef_r _ | exact hRef_o _ | exact hRef_n) rfl ?_
  refine g_iload_n (q := 3) C dX5_wetter_2 rfl rfl ?_
  refine g_iconst (q := 4) (-1) C dX5_wetter_3 (by decide) rfl ?_
  refine g_callV2P (q := 7) C hy_X5_beside (c_X5_beside_m Γ l k h hs ho hk) qw_808 (by exact hs) rfl ⟨Nat.le_of_ble_eq_true rfl, Nat.le_of_ble_eq_true rfl⟩ (Nat.le_of_ble_eq_true rfl) rfl dX5_wetter_4 ⟨rfl, rfl⟩ ⟨Nat.zero_le _, Nat.zero_le _⟩ rfl ?_
  refine g_iload_n (q := 8) C dX5_wetter_7 rfl rfl ?_
  refine g_callV2P (q := 11) C hy_X5_isWetter (c_X5_isWetter Γ l k (bmO (vG G o) k) h hs ho hk (bmO_lt hk)) qw_865 (by exact hs) rfl ⟨Nat.le_of_ble_eq_true rfl, Nat.le_of_ble_eq_true rfl⟩ (Nat.le_of_ble_eq_true rfl) rfl dX5_wetter_8 ⟨rfl, rfl⟩ ⟨Nat.zero_le _, Nat.zero_le _⟩ rfl ?_
  refine g_aload_n (q := 12) C dX5_wetter_11 rfl (by first | exact hRef_r _ | exact hRef_o _ | exact hRef_n) rfl ?_
  refine g_aload_n (q := 13) C dX5_wetter_12 rfl (by first | exact hRef_r _ | exact hRef_o _ | exact hRef_n) rfl ?_
  refine g_iload_n (q := 14) C dX5_wetter_13 rfl rfl ?_
  refine g_iconst (q := 15) (1) C dX5_wetter_14 (by decide) rfl ?_
  refine g_callV2P (q := 18) C hy_X5_beside (c_X5_beside_p Γ l k h hs ho hk) qw_808 (by exact hs) rfl ⟨Nat.le_of_ble_eq_true rfl, Nat.le_of_ble_eq_true rfl⟩ (Nat.le_of_ble_eq_true rfl) rfl dX5_wetter_15 ⟨rfl, rfl⟩ ⟨Nat.zero_le _, Nat.zero_le _⟩ rfl ?_
  refine g_iload_n (q := 19) C dX5_wetter_18 rfl rfl ?_
  refine g_callV2P (q := 22) C hy_X5_isWetter (c_X5_isWetter Γ l k (bpO (vG G o) k) h hs ho hk (bpO_lt hk)) qw_865 (by exact hs) rfl ⟨Nat.le_of_ble_eq_true rfl, Nat.le_of_ble_eq_true rfl⟩ (Nat.le_of_ble_eq_true rfl) rfl dX5_wetter_19 ⟨rfl, rfl⟩ ⟨Nat.zero_le _, Nat.zero_le _⟩ rfl ?_
  refine g_iadd (q := 23) C dX5_wetter_22 rfl ?_
  exact g_iret C dX5_wetter_23 (⟨oWet, rfl⟩) (Nat.zero_le _) (Nat.zero_le _)
set_option maxRecDepth 100000 in
set_option maxHeartbeats 4000000 in
theorem c_X5_isBesideBad (Γ : hGam) (l : Launch) {M : hM} {x o : Nat} {ad : Nat → Nat} {G : Nat → Nat → Int32} {d9 : Int32} (k : Nat) (h : mdA Γ M ad G) (hs : M x = some (true, oSt ad o d9)) (ho : o + 4 < 15) (hk : k < 40) : hMet Γ l yX5_isBesideBad cX5_isBesideBad 2 (some .boolean) rm_X5_isBesideBad [.ref x, .int (nI k)] M (hpP M (bI (nSp (vG G o) k))) := by
  refine hMet_of (by decide +kernel) (Nat.le_of_ble_eq_true rfl) (hCat_cons rfl (hCat_cons rfl hCat_nil)) (fun k9 C => ?_)
  show hG _ _ _ _ _ _ _ _ [some (.ref x), some (.int (nI k))] _
  refine g_aload_n (q := 1) C dX5_isBesideBad_0 rfl (by first | exact hRef_r _ | exact hRef_o _ | exact hRef_n) rfl ?_
  refine g_aload_n (q := 2) C dX5_isBesideBad_1 rfl (by first | exact hRef_r _ | exact hRef_o _ | exact hRef_n) rfl ?_
  refine g_iload_n (q := 3) C dX5_isBesideBad_2 rfl rfl ?_
  refine g_iconst (q := 4) (-1) C dX5_isBesideBad_3 (by decide) rfl ?_
  refine g_callV2P (q := 7) C hy_X5_beside (c_X5_beside_m Γ l k h hs ho hk) qw_808 (by exact hs) rfl ⟨Nat.le_of_ble_eq_true rfl, Nat.le_of_ble_eq_true rfl⟩ (Nat.le_of_ble_eq_true rfl) rfl dX5_isBesideBad_4 ⟨rfl, rfl⟩ ⟨Nat.zero_le _, Nat.zero_le _⟩ rfl ?_
  refine g_callV1P (q := 10) C hy_X5_isBad (c_X5_isBad Γ l (bmO (vG G o) k) h hs ho (bmO_lt hk)) qw_875 (by exact hs) rfl ⟨Nat.le_of_ble_eq_true rfl, Nat.le_of_ble_eq_true rfl⟩ (Nat.le_of_ble_eq_true rfl) rfl dX5_isBesideBad_7 ⟨rfl, rfl⟩ ⟨Nat.zero_le _, Nat.zero_le _⟩ rfl ?_
  refine g_ifB_ne (t := 26) (q := 13) C dX5_isBesideBad_10 (by decide) rfl (fun c_10 => ?_) (fun c_10 => ?_)
  · skip
    refine g_iconst (q := 27) (1) C dX5_isBesideBad_26 (by decide) rfl ?_
    refine g_goto (t := 31) C dX5_isBesideBad_27 (by decide) ?_
    exact g_zret C dX5_isBesideBad_31 (by first | rfl | exact hNarB _) (⟨by rw [← oBad, c_10]; rfl, rfl⟩) (Nat.zero_le _) (Nat.zero_le _)
  · skip
    refine g_aload_n (q := 14) C dX5_isBesideBad_13 rfl (by first | exact hRef_r _ | exact hRef_o _ | exact hRef_n) rfl ?_
    refine g_aload_n (q := 15) C dX5_isBesideBad_14 rfl (by first | exact hRef_r _ | exact hRef_o _ | exact hRef_n) rfl ?_
    refine g_iload_n (q := 16) C dX5_isBesideBad_15 rfl rfl ?_
    refine g_iconst (q := 17) (1) C dX5_isBesideBad_16 (by decide) rfl ?_
    refine g_callV2P (q := 20) C hy_X5_beside (c_X5_beside_p Γ l k h hs ho hk) qw_808 (by exact hs) rfl ⟨Nat.le_of_ble_eq_true rfl, Nat.le_of_ble_eq_true rfl⟩ (Nat.le_of_ble_eq_true rfl) rfl dX5_isBesideBad_17 ⟨rfl, rfl⟩ ⟨Nat.zero_le _, Nat.zero_le _⟩ rfl ?_
    refine g_callV1P (q := 23) C hy_X5_isBad (c_X5_isBad Γ l (bpO (vG G o) k) h hs ho (bpO_lt hk)) qw_875 (by exact hs) rfl ⟨Nat.le_of_ble_eq_true rfl, Nat.le_of_ble_eq_true rfl⟩ (Nat.le_of_ble_eq_true rfl) rfl dX5_isBesideBad_20 ⟨rfl, rfl⟩ ⟨Nat.zero_le _, Nat.zero_le _⟩ rfl ?_
    refine g_ifB_eq (t := 30) (q := 26) C dX5_isBesideBad_23 (by decide) rfl (fun c_23 => ?_) (fun c_23 => ?_)
    · skip
      refine g_iconst (q := 31) (0) C dX5_isBesideBad_30 (by decide) rfl ?_
      exact g_zret C dX5_isBesideBad_31 (by first | rfl | exact hNarB _) (⟨by rw [← oBad, c_10, c_23]; rfl, rfl⟩) (Nat.zero_le _) (Nat.zero_le _)
    · skip
      refine g_iconst (q := 27) (1) C dX5_isBesideBad_26 (by decide) rfl ?_
      refine g_goto (t := 31) C dX5_isBesideBad_27 (by decide) ?_
      exact g_zret C dX5_isBesideBad_31 (by first | rfl | exact hNarB _) (⟨by rw [← oBad, c_10, c_23]; rfl, rfl⟩) (Nat.zero_le _) (Nat.zero_le _)
set_option maxRecDepth 100000 in
set_option maxHeartbeats 4000000 in
theorem c_X5_neighbours (Γ : hGam) (l : Launch) {M : hM} {x o : Nat} {ad : Nat → Nat} {G : Nat → Nat → Int32} {d9 : Int32} (k : Nat) (h : mdA Γ M ad G) (hs : M x = some (true, oSt ad o d9)) (ho : o + 4 < 15) (hk : k < 40) : hMet Γ l yX5_neighbours cX5_neighbours 2 (some .int) rm_X5_neighbours [.ref x, .int (nI k)] M (hpP M (nbrs (vG G o) k)) := by
  refine hMet_of (by decide +kernel) (Nat.le_of_ble_eq_true rfl) (hCat_cons rfl (hCat_cons rfl hCat_nil)) (fun k9 C => ?_)
  show hG _ _ _ _ _ _ _ _ [some (.ref x), some (.int (nI k))] _
  refine g_aload_n (q := 1) C dX5_neighbours_0 rfl (by first | exact hRef_r _ | exact hRef_o _ | exact hRef_n) rfl ?_
  refine g_iload_n (q := 2) C dX5_neighbours_1 rfl rfl ?_
  refine g_iconst (q := 3) (-1) C dX5_neighbours_2 (by decide) rfl ?_
  refine g_callV2P (q := 6) C hy_X5_beside (c_X5_beside_m Γ l k h hs ho hk) qw_808 (by exact hs) rfl ⟨Nat.le_of_ble_eq_true rfl, Nat.le_of_ble_eq_true rfl⟩ (Nat.le_of_ble_eq_true rfl) rfl dX5_neighbours_3 ⟨rfl, rfl⟩ ⟨Nat.zero_le _, Nat.zero_le _⟩ rfl ?_
  refine g_iconst (q := 7) (-1) C dX5_neighbours_6 (by decide) rfl ?_
  refine g_icmp_ne (t := 14) (q := 10) C dX5_neighbours_7 (by decide) rfl (fun c_7 => ?_) (fun c_7 => ?_)
  · skip
    refine g_iconst (q := 15) (1) C dX5_neighbours_14 (by decide) rfl ?_
    refine g_aload_n (q := 16) C dX5_neighbours_15 rfl (by first | exact hRef_r _ | exact hRef_o _ | exact hRef_n) rfl ?_
    refine g_iload_n (q := 17) C dX5_neighbours_16 rfl rfl ?_
    refine g_iconst (q := 18) (1) C dX5_neighbours_17 (by decide) rfl ?_
    refine g_callV2P (q := 21) C hy_X5_beside (c_X5_beside_p Γ l k h hs ho hk) qw_808 (by exact hs) rfl ⟨Nat.le_of_ble_eq_true rfl, Nat.le_of_ble_eq_true rfl⟩ (Nat.le_of_ble_eq_true rfl) rfl dX5_neighbours_18 ⟨rfl, rfl⟩ ⟨Nat.zero_le _, Nat.zero_le _⟩ rfl ?_
    refine g_iconst (q := 22) (-1) C dX5_neighbours_21 (by decide) rfl ?_
    refine g_icmp_ne (t := 29) (q := 25) C dX5_neighbours_22 (by decide) rfl (fun c_22 => ?_) (fun c_22 => ?_)
    · skip
      refine g_iconst (q := 30) (1) C dX5_neighbours_29 (by decide) rfl ?_
      refine g_iadd (q := 31) C dX5_neighbours_30 rfl ?_
      exact g_iret C dX5_neighbours_31 (⟨by rw [← oNbr]; rw [Option.isSome_iff_ne_none.mpr (fun q => c_7 ((enc_m1 (fun j q => Nat.lt_trans (bmO_lt hk j q) (by decide))).mpr q))]; rw [Option.isSome_iff_ne_none.mpr (fun q => c_22 ((enc_m1 (fun j q => Nat.lt_trans (bpO_lt hk j q) (by decide))).mpr q))]; rfl, rfl⟩) (Nat.zero_le _) (Nat.zero_le _)
    · skip
      refine g_iconst (q := 26) (0) C dX5_neighbours_25 (by decide) rfl ?_
      refine g_goto (t := 30) C dX5_neighbours_26 (by decide) ?_
      refine g_iadd (q := 31) C dX5_neighbours_30 rfl ?_
      exact g_iret C dX5_neighbours_31 (⟨by rw [← oNbr]; rw [Option.isSome_iff_ne_none.mpr (fun q => c_7 ((enc_m1 (fun j q => Nat.lt_trans (bmO_lt hk j q) (by decide))).mpr q))]; rw [(enc_m1 (fun j q => Nat.lt_trans (bpO_lt hk j q) (by decide))).mp c_22]; rfl, rfl⟩) (Nat.zero_le _) (Nat.zero_le _)
  · skip
    refine g_iconst (q := 11) (0) C dX5_neighbours_10 (by decide) rfl ?_
    refine g_goto (t := 15) C dX5_neighbours_11 (by decide) ?_
    refine g_aload_n (q := 16) C dX5_neighbours_15 rfl (by first | exact hRef_r _ | exact hRef_o _ | exact hRef_n) rfl ?_
    refine g_iload_n (q := 17) C dX5_neighbours_16 rfl rfl ?_
    refine g_iconst (q := 18) (1) C dX5_neighbours_17 (by decide) rfl ?_
    refine g_callV2P (q := 21) C hy_X5_beside (c_X5_beside_p Γ l k h hs ho hk) qw_808 (by exact hs) rfl ⟨Nat.le_of_ble_eq_true rfl, Nat.le_of_ble_eq_true rfl⟩ (Nat.le_of_ble_eq_true rfl) rfl dX5_neighbours_18 ⟨rfl, rfl⟩ ⟨Nat.zero_le _, Nat.zero_le _⟩ rfl ?_
    refine g_iconst (q := 22) (-1) C dX5_neighbours_21 (by decide) rfl ?_
    refine g_icmp_ne (t := 29) (q := 25) C dX5_neighbours_22 (by decide) rfl (fun c_22 => ?_) (fun c_22 => ?_)
    · skip
      refine g_iconst (q := 30) (1) C dX5_neighbours_29 (by decide) rfl ?_
      refine g_iadd (q := 31) C dX5_neighbours_30 rfl ?_
      exact g_iret C dX5_neighbours_31 (⟨by rw [← oNbr]; rw [(enc_m1 (fun j q => Nat.lt_trans (bmO_lt hk j q) (by decide))).mp c_7]; rw [Option.isSome_iff_ne_none.mpr (fun q => c_22 ((enc_m1 (fun j q => Nat.lt_trans (bpO_lt hk j q) (by decide))).mpr q))]; rfl, rfl⟩) (Nat.zero_le _) (Nat.zero_le _)
    · skip
      refine g_iconst (q := 26) (0) C dX5_neighbours_25 (by decide) rfl ?_
      refine g_goto (t := 30) C dX5_neighbours_26 (by decide) ?_
      refine g_iadd (q := 31) C dX5_neighbours_30 rfl ?_
      exact g_iret C dX5_neighbours_31 (⟨by rw [← oNbr]; rw [(enc_m1 (fun j q => Nat.lt_trans (bmO_lt hk j q) (by decide))).mp c_7]; rw [(enc_m1 (fun j q => Nat.lt_trans (bpO_lt hk j q) (by decide))).mp c_22]; rfl, rfl⟩) (Nat.zero_le _) (Nat.zero_le _)
set_option maxRecDepth 100000 in
set_option maxHeartbeats 4000000 in
theorem c_X5_sum (Γ : hGam) (l : Launch) {M : hM} {x o : Nat} {ad : Nat → Nat} {G : Nat → Nat → Int32} {d9 : Int32} (w : Int32) (h : mdA Γ M ad G) (hs : M x = some (true, oSt ad o d9)) (ho : o + 4 < 15)  : hMet Γ l yX5_sum cX5_sum 4 (some .int) rm_X5_sum [.ref x, .int w] M (hpP M (hIt (fSm (vG G o) w) 0 40)) := by
  refine hMet_of (by decide +kernel) (Nat.le_of_ble_eq_true rfl) (hCat_cons rfl (hCat_cons rfl hCat_nil)) (fun k9 C => ?_)
  show hG _ _ _ _ _ _ _ _ [some (.ref x), some (.int w), none, none] _
  refine g_iconst (q := 1) (0) C dX5_sum_0 (by decide) rfl ?_
  refine g_istore2 (q := 2) C dX5_sum_1 (by first | rfl | exact hNw_rf _) rfl ?_
  refine g_iconst (q := 3) (0) C dX5_sum_2 (by decide) rfl ?_
  refine g_istore3 (q := 4) C dX5_sum_3 (by first | rfl | exact hNw_rf _) rfl ?_
  refine h_loopU (P := fun i => ∀ acc : Int32, acc = hIt (fSm (vG G o) w) 0 i → hG Γ k9 _ _ M 0 0 4 [some (.ref x), some (.int w), some (.int acc), some (.int (nI i))] []) (N := 40) (fun i hi ih => ?_) 0 (Nat.zero_le _) _ rfl
  intro acc hacc
  refine g_iload_n (q := 5) C dX5_sum_4 rfl rfl ?_
  refine g_bipush (q := 7) (40) C dX5_sum_5 (by decide) rfl ?_
  refine g_icmp_ge (t := 63) (q := 10) C dX5_sum_7 (by decide) rfl (fun c_7 => ?_) (fun c_7 => ?_)
  · skip
    have hN := nI_ge_eq hi (by decide) c_7
    subst hN
    refine g_iload_n (q := 64) C dX5_sum_63 rfl rfl ?_
    exact g_iret C dX5_sum_64 (⟨hacc, rfl⟩) (Nat.zero_le _) (Nat.zero_le _)
  · skip
    have hlt := nI_nge_lt hi (by decide) c_7
    refine g_aload_n (q := 11) C dX5_sum_10 rfl (by first | exact hRef_r _ | exact hRef_o _ | exact hRef_n) rfl ?_
    refine g_iload_n (q := 12) C dX5_sum_11 rfl rfl ?_
    refine g_callV1P (q := 15) C hy_X5_hangs (c_X5_hangs Γ l i h hs ho hlt) qw_786 (by exact hs) rfl ⟨Nat.le_of_ble_eq_true rfl, Nat.le_of_ble_eq_true rfl⟩ (Nat.le_of_ble_eq_true rfl) rfl dX5_sum_12 ⟨rfl, rfl⟩ ⟨Nat.zero_le _, Nat.zero_le _⟩ rfl ?_
    refine g_ifB_eq (t := 57) (q := 18) C dX5_sum_15 (by decide) rfl (fun c_15 => ?_) (fun c_15 => ?_)
    · skip
      refine g_iinc3 (q := 60) (1) C dX5_sum_57 (by decide) (by first | rfl | exact hNw_rf _) rfl ?_
      refine g_goto (t := 4) C dX5_sum_60 (by decide) ?_
      rw [nI_1]
      refine ih hlt _ ?_
      rw [hIt_s, ← hacc]
      unfold fSm
      simp [c_15]
    · skip
      refine g_iload_n (q := 19) C dX5_sum_18 rfl rfl ?_
      refine g_iload_n (q := 20) C dX5_sum_19 rfl rfl ?_
      refine g_iconst (q := 21) (2) C dX5_sum_20 (by decide) rfl ?_
      refine g_icmp_ne (t := 28) (q := 24) C dX5_sum_21 (by decide) rfl (fun c_21 => ?_) (fun c_21 => ?_)
      · skip
        refine g_iload_n (q := 29) C dX5_sum_28 rfl rfl ?_
        refine g_iconst (q := 30) (3) C dX5_sum_29 (by decide) rfl ?_
        refine g_icmp_ne (t := 50) (q := 33) C dX5_sum_30 (by decide) rfl (fun c_30 => ?_) (fun c_30 => ?_)
        · skip
          refine g_aload_n (q := 51) C dX5_sum_50 rfl (by first | exact hRef_r _ | exact hRef_o _ | exact hRef_n) rfl ?_
          refine g_iload_n (q := 52) C dX5_sum_51 rfl rfl ?_
          refine g_callV1P (q := 55) C hy_X5_wetness (c_X5_wetness Γ l i h hs ho hlt) qw_787 (by exact hs) rfl ⟨Nat.le_of_ble_eq_true rfl, Nat.le_of_ble_eq_true rfl⟩ (Nat.le_of_ble_eq_true rfl) rfl dX5_sum_52 ⟨rfl, rfl⟩ ⟨Nat.zero_le _, Nat.zero_le _⟩ rfl ?_
          refine g_iadd (q := 56) C dX5_sum_55 rfl ?_
          refine g_istore2 (q := 57) C dX5_sum_56 (by first | rfl | exact hNw_rf _) rfl ?_
          refine g_iinc3 (q := 60) (1) C dX5_sum_57 (by decide) (by first | rfl | exact hNw_rf _) rfl ?_
          refine g_goto (t := 4) C dX5_sum_60 (by decide) ?_
          rw [nI_1]
          refine ih hlt _ ?_
          rw [hIt_s, ← hacc]
          unfold fSm
          simp [c_15, c_21, c_30]
        · skip
          refine g_aload_n (q := 34) C dX5_sum_33 rfl (by first | exact hRef_r _ | exact hRef_o _ | exact hRef_n) rfl ?_
          refine g_get (q := 37) C hcl_X5 5 (by decide) qw_693 rfl dX5_sum_34 (by exact hs) rfl rfl ?_
          refine g_iload_n (q := 38) C dX5_sum_37 rfl rfl ?_
          refine g_iald (q := 39) C i rfl hlt (by decide) dX5_sum_38 (h.at0 (c := o + 4) (by omega)) rfl ?_
          refine g_if_le (t := 46) (q := 42) C dX5_sum_39 (by decide) rfl (fun c_39 => ?_) (fun c_39 => ?_)
          · skip
            refine g_iconst (q := 47) (0) C dX5_sum_46 (by decide) rfl ?_
            refine g_goto (t := 55) C dX5_sum_47 (by decide) ?_
            refine g_iadd (q := 56) C dX5_sum_55 rfl ?_
            refine g_istore2 (q := 57) C dX5_sum_56 (by first | rfl | exact hNw_rf _) rfl ?_
            refine g_iinc3 (q := 60) (1) C dX5_sum_57 (by decide) (by first | rfl | exact hNw_rf _) rfl ?_
            refine g_goto (t := 4) C dX5_sum_60 (by decide) ?_
            rw [nI_1]
            refine ih hlt _ ?_
            rw [hIt_s, ← hacc]
            unfold fSm
            simp [c_15, c_21, c_30, c_39]
            try exact c_39
            try exact Int32.not_le.mp c_39
          · skip
            refine g_iconst (q := 43) (1) C dX5_sum_42 (by decide) rfl ?_
            refine g_goto (t := 55) C dX5_sum_43 (by decide) ?_
            refine g_iadd (q := 56) C dX5_sum_55 rfl ?_
            refine g_istore2 (q := 57) C dX5_sum_56 (by first | rfl | exact hNw_rf _) rfl ?_
            refine g_iinc3 (q := 60) (1) C dX5_sum_57 (by decide) (by first | rfl | exact hNw_rf _) rfl ?_
            refine g_goto (t := 4) C dX5_sum_60 (by decide) ?_
            rw [nI_1]
            refine ih hlt _ ?_
            rw [hIt_s, ← hacc]
            unfold fSm
            simp [c_15, c_21, c_30, c_39]
            try exact c_39
            try exact Int32.not_le.mp c_39
      · skip
        refine g_iconst (q := 25) (1) C dX5_sum_24 (by decide) rfl ?_
        refine g_goto (t := 55) C dX5_sum_25 (by decide) ?_
        refine g_iadd (q := 56) C dX5_sum_55 rfl ?_
        refine g_istore2 (q := 57) C dX5_sum_56 (by first | rfl | exact hNw_rf _) rfl ?_
        refine g_iinc3 (q := 60) (1) C dX5_sum_57 (by decide) (by first | rfl | exact hNw_rf _) rfl ?_
        refine g_goto (t := 4) C dX5_sum_60 (by decide) ?_
        rw [nI_1]
        refine ih hlt _ ?_
        rw [hIt_s, ← hacc]
        unfold fSm
        simp [c_15, c_21]
